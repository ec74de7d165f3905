section
/-! what the makers of state do, exactly -/
def qnar (s x : Int) : Int := if s = 0 then qz_i2b x else if s = 1 then qz_i2s x else if s = 2 then (qz x).toInt else if s = 3 then x else if x = 0 then 0 else 1
theorem qna_b {x v1 v2 : Int} (h1 : qz v1 = qz x) (h2 : qz v2 = qz (qz_i2b v1)) (r : -2147483648 ≤ v2 ∧ v2 ≤ 2147483647) : v2 = qz_i2b x := by
  have e : qz_i2b v1 = qz_i2b x := by unfold qz_i2b; rw [h1]
  have h3 := congrArg Int32.toInt h2
  rw [e, qz_ti r, qz_ti (show -2147483648 ≤ qz_i2b x ∧ qz_i2b x ≤ 2147483647 from qz_rng _)] at h3
  exact h3
theorem qna_s {x v1 v2 : Int} (h1 : qz v1 = qz x) (h2 : qz v2 = qz (qz_i2s v1)) (r : -2147483648 ≤ v2 ∧ v2 ≤ 2147483647) : v2 = qz_i2s x := by
  have e : qz_i2s v1 = qz_i2s x := by unfold qz_i2s; rw [h1]
  have h3 := congrArg Int32.toInt h2
  rw [e, qz_ti r, qz_ti (show -2147483648 ≤ qz_i2s x ∧ qz_i2s x ≤ 2147483647 from qz_rng _)] at h3
  exact h3
theorem qna_i {x v1 : Int} (h1 : qz v1 = qz x) (r : -2147483648 ≤ v1 ∧ v1 ≤ 2147483647) : v1 = (qz x).toInt := by
  have h3 := congrArg Int32.toInt h1
  rw [qz_ti r] at h3
  exact h3
theorem ql_ushr32 {a : Int} (h : 0 ≤ a ∧ a ≤ 9223372036854775807) : ql_ushr a 32 = a / 4294967296 := by
  have h1 : ql (ql_ushr a 32) = ql (ql_ushr a 32) := rfl
  have g1 : qlu (ql_ushr a 32) = qlu a / 4294967296 := qlu_ushrN 32 (by decide) (by decide) h1
  have g2 := qlu_nn h
  have g3 := qlu_sm (v := ql_ushr a 32) (ql_rng _) (by omega)
  omega
/-- nothing but 0 on b places from a on -/
def qzfl (f : Nat → Int) (a b : Nat) : Nat → Int := fun j => if a ≤ j ∧ j < a + b then 0 else f j
theorem qzfl_0 (f : Nat → Int) (a : Nat) : f = qzfl f a 0 := by
  funext j
  unfold qzfl
  rw [if_neg (by omega)]
theorem qzfl_s {f : Nat → Int} {a b i c : Nat} (hi : i = a + b) (hc : c = b + 1) : qzu (qzfl f a b) i 0 = qzfl f a c := by
  funext j
  show (if j = i then 0 else (if a ≤ j ∧ j < a + b then 0 else f j)) = if a ≤ j ∧ j < a + c then 0 else f j
  by_cases h : j = i
  · rw [if_pos h, if_pos (by omega)]
  · rw [if_neg h]
    by_cases h2 : a ≤ j ∧ j < a + b
    · rw [if_pos h2, if_pos (by omega)]
    · rw [if_neg h2, if_neg (by omega)]
theorem qcpy_0 (f g : Nat → Int) (a b : Nat) : g = va_cpy f g a b 0 := by
  funext j
  unfold va_cpy
  rw [if_neg (by omega)]
theorem qcpy_s {f g : Nat → Int} {a b n i c : Nat} {x : Int} (hi : i = b + n) (hc : c = n + 1) (hx : x = f (a + n)) : qzu (va_cpy f g a b n) i x = va_cpy f g a b c := by
  funext j
  show (if j = i then x else (if b ≤ j ∧ j < b + n then f (a + (j - b)) else g j)) = if b ≤ j ∧ j < b + c then f (a + (j - b)) else g j
  by_cases h : j = i
  · rw [if_pos h, if_pos (by omega), hx]
    congr 1
    omega
  · rw [if_neg h]
    by_cases h2 : b ≤ j ∧ j < b + n
    · rw [if_pos h2, if_pos (by omega)]
    · rw [if_neg h2, if_neg (by omega)]
theorem qcpy_2 (f h : Nat → Int) (a b n : Nat) : va_cpy (va_cpy f h a 0 n) f 0 b n = va_cpy f f a b n := by
  funext j
  unfold va_cpy
  by_cases h2 : b ≤ j ∧ j < b + n
  · rw [if_pos h2, if_pos h2, if_pos (by omega)]
    congr 1
    omega
  · rw [if_neg h2, if_neg h2]
theorem qzu_self {f : Nat → Int} {i : Nat} {x : Int} (h : x = f i) : f = qzu f i x := by
  funext j
  unfold qzu
  split
  · next e => rw [e, h]
  · rfl
/-- people from a row: f what stands at a place, c how many came, s how many there are, their lords, their weights -/
def qfit (s a b c : Int) : Prop := (a = -1 ∨ (0 ≤ a ∧ a < s)) ∧ (1 ≤ b ∧ b ≤ 99) ∧ (c = 0 ∨ c = 1)

set_option maxHeartbeats 4000000 in
set_option maxRecDepth 20000 in
/-- OneRoof$Folk.fits -/
theorem sf_39_17x {L : Nat} {xs : Nat → Int} {vb : Bool} {d : Nat} {σ α : Nat → Nat → Int} {κ : Nat → Option Nat} {ρ : Nat} {x1 : Int} {x2 : Int} {x3 : Int} (hI : qI σ α κ ρ) (r1 : (-2147483648) ≤ x1 ∧ x1 ≤ 2147483647) (r2 : (-2147483648) ≤ x2 ∧ x2 ≤ 2147483647) (r3 : (-2147483648) ≤ x3 ∧ x3 ≤ 2147483647) : qm_T (qe L xs vb) (d + 2) 39 [.ref 17, .int (qz x1), .int (qz x2), .int (qz x3)] (qw σ α κ ρ) (fun r w' => w' = qw σ α κ ρ ∧ ∃ v : Int, r = some (.int (qz v)) ∧ (0 ≤ v ∧ v ≤ 1) ∧ ((v = 1 ∧ ((x1 = -1 ∨ (0 ≤ x1 ∧ x1 < σ 17 6)) ∧ 1 ≤ x2 ∧ x2 ≤ 99 ∧ (x3 = 0 ∨ x3 = 1))) ∨ (v = 0 ∧ ¬ (((x1 = -1 ∨ (0 ≤ x1 ∧ x1 < σ 17 6)) ∧ 1 ≤ x2 ∧ x2 ≤ 99 ∧ (x3 = 0 ∨ x3 = 1)))))) := by
  refine qr_start (d := d + 1) qv_e39 (Nat.le_of_ble_eq_true rfl) ?_
  show qr_W (qe L xs vb) (d + 1) qx_e39 _ (0, [(0, .ref 17), (1, .int (qz x1)), (2, .int (qz x2)), (3, .int (qz x3))], [], _, 0, 0)
  have hz17_6 : 0 ≤ σ 17 6 ∧ σ 17 6 ≤ 32 := hI.1 17 6
  refine qr_iload_n 1 rfl rfl rfl ?_
  refine qr_iconst 2 rfl rfl ?_
  refine qr_icmp_eq 13 5 rfl rfl rfl r1 (by decide) (fun h1 => ?_) (fun h1 => ?_)
  · skip
    refine qr_iload_n 14 rfl rfl rfl ?_
    refine qr_iconst 15 rfl rfl ?_
    refine qr_icmp_lt 35 18 rfl rfl rfl r2 (by decide) (fun h2 => ?_) (fun h2 => ?_)
    · skip
      refine qr_iconst 36 rfl rfl ?_
      refine qr_retZ rfl rfl (Or.inl rfl) (by decide) (by decide) ?_
      exact ⟨rfl, 0, rfl, (by decide), by omega⟩
    · skip
      refine qr_iload_n 19 rfl rfl rfl ?_
      refine qr_bipush 21 rfl (by decide) rfl ?_
      refine qr_icmp_gt 35 24 rfl rfl rfl r2 (by decide) (fun h3 => ?_) (fun h3 => ?_)
      · skip
        refine qr_iconst 36 rfl rfl ?_
        refine qr_retZ rfl rfl (Or.inl rfl) (by decide) (by decide) ?_
        exact ⟨rfl, 0, rfl, (by decide), by omega⟩
      · skip
        refine qr_iload_n 25 rfl rfl rfl ?_
        refine qr_callN 28 rfl rfl rfl (sf_41 (d := d + 0) hI r3) ?_
        rintro _ _ ⟨rfl, v4, rfl, hv4, hp5⟩
        show qr_W (qe L xs vb) (d + 1) qx_e39 _ (28, _, [.int (qz v4)], qw σ α κ ρ, 0, 0)
        refine qr_if_eq 35 31 rfl rfl rfl (qrg hv4 (by decide) (by decide)) (fun h6 => ?_) (fun h6 => ?_)
        · skip
          refine qr_iconst 36 rfl rfl ?_
          refine qr_retZ rfl rfl (Or.inl rfl) (by decide) (by decide) ?_
          exact ⟨rfl, 0, rfl, (by decide), by omega⟩
        · skip
          refine qr_iconst 32 rfl rfl ?_
          refine qr_goto 36 rfl rfl ?_
          refine qr_retZ rfl rfl (Or.inr rfl) (by decide) (by decide) ?_
          exact ⟨rfl, 1, rfl, (by decide), by omega⟩
  · skip
    refine qr_aload_n 6 rfl rfl rfl ?_
    refine qr_iload_n 7 rfl rfl rfl ?_
    refine qr_callN 10 rfl rfl rfl (sf_40_17 (d := d + 0) hI r1) ?_
    have hs9 : 0 ≤ σ 17 6 ∧ σ 17 6 ≤ 32 := hI.1 17 6
    rintro _ _ ⟨rfl, v7, rfl, hv7, hp8⟩
    show qr_W (qe L xs vb) (d + 1) qx_e39 _ (10, _, [.int (qz v7)], qw σ α κ ρ, 0, 0)
    refine qr_if_eq 35 13 rfl rfl rfl (qrg hv7 (by decide) (by decide)) (fun h10 => ?_) (fun h10 => ?_)
    · skip
      refine qr_iconst 36 rfl rfl ?_
      refine qr_retZ rfl rfl (Or.inl rfl) (by decide) (by decide) ?_
      exact ⟨rfl, 0, rfl, (by decide), by omega⟩
    · skip
      refine qr_iload_n 14 rfl rfl rfl ?_
      refine qr_iconst 15 rfl rfl ?_
      refine qr_icmp_lt 35 18 rfl rfl rfl r2 (by decide) (fun h11 => ?_) (fun h11 => ?_)
      · skip
        refine qr_iconst 36 rfl rfl ?_
        refine qr_retZ rfl rfl (Or.inl rfl) (by decide) (by decide) ?_
        exact ⟨rfl, 0, rfl, (by decide), by omega⟩
      · skip
        refine qr_iload_n 19 rfl rfl rfl ?_
        refine qr_bipush 21 rfl (by decide) rfl ?_
        refine qr_icmp_gt 35 24 rfl rfl rfl r2 (by decide) (fun h12 => ?_) (fun h12 => ?_)
        · skip
          refine qr_iconst 36 rfl rfl ?_
          refine qr_retZ rfl rfl (Or.inl rfl) (by decide) (by decide) ?_
          exact ⟨rfl, 0, rfl, (by decide), by omega⟩
        · skip
          refine qr_iload_n 25 rfl rfl rfl ?_
          refine qr_callN 28 rfl rfl rfl (sf_41 (d := d + 0) hI r3) ?_
          rintro _ _ ⟨rfl, v13, rfl, hv13, hp14⟩
          show qr_W (qe L xs vb) (d + 1) qx_e39 _ (28, _, [.int (qz v13)], qw σ α κ ρ, 0, 0)
          refine qr_if_eq 35 31 rfl rfl rfl (qrg hv13 (by decide) (by decide)) (fun h15 => ?_) (fun h15 => ?_)
          · skip
            refine qr_iconst 36 rfl rfl ?_
            refine qr_retZ rfl rfl (Or.inl rfl) (by decide) (by decide) ?_
            exact ⟨rfl, 0, rfl, (by decide), by omega⟩
          · skip
            refine qr_iconst 32 rfl rfl ?_
            refine qr_goto 36 rfl rfl ?_
            refine qr_retZ rfl rfl (Or.inr rfl) (by decide) (by decide) ?_
            exact ⟨rfl, 1, rfl, (by decide), by omega⟩

set_option maxHeartbeats 4000000 in
set_option maxRecDepth 20000 in
/-- OneRoof.road -/
theorem sf_126_16x {L : Nat} {xs : Nat → Int} {vb : Bool} {d : Nat} {σ α : Nat → Nat → Int} {κ : Nat → Option Nat} {ρ : Nat} {x1 : Int} {x2 : Int} (hI : qI σ α κ ρ) (r1 : (-2147483648) ≤ x1 ∧ x1 ≤ 2147483647) (r2 : (-2147483648) ≤ x2 ∧ x2 ≤ 2147483647) : qm_T (qe L xs vb) (d + 2) 126 [.ref 16, .int (qz x1), .int (qz x2)] (qw σ α κ ρ) (fun r w' => ∃ α', w' = qw σ α' κ ρ ∧ qI σ α' κ ρ ∧ qFr [] [21] σ α σ α' ∧ ∃ v : Int, r = some (.int (qz v)) ∧ ((-2147483648) ≤ v ∧ v ≤ 2147483647) ∧ (((v = -1 ∧ ¬ (0 ≤ x1 ∧ x1 < σ 17 6 ∧ 0 ≤ x2 ∧ x2 ≤ 3)) ∧ α' 21 = α 21) ∨ (((0 ≤ x1 ∧ x1 < σ 17 6 ∧ 0 ≤ x2 ∧ x2 ≤ 3) ∧ v = α 21 (x1 : Int).toNat) ∧ α' 21 = qzu (α 21) (x1 : Int).toNat (x2)))) := by
  refine qr_start (d := d + 1) qv_e126 (Nat.le_of_ble_eq_true rfl) ?_
  show qr_W (qe L xs vb) (d + 1) qx_e126 _ (0, [(0, .ref 16), (1, .int (qz x1)), (2, .int (qz x2))], [], _, 0, 0)
  have hF0 := qFr_rf [] [21] σ α
  have hz17_6 : 0 ≤ σ 17 6 ∧ σ 17 6 ≤ 32 := hI.1 17 6
  refine qr_aload_n 1 rfl rfl rfl ?_
  refine qr_get 4 rfl rfl rfl (by decide) rfl ?_
  refine qr_iload_n 5 rfl rfl rfl ?_
  refine qr_callN 8 rfl rfl rfl (sf_40_17 (d := d + 0) hI r1) ?_
  have hs3 : 0 ≤ σ 17 6 ∧ σ 17 6 ≤ 32 := hI.1 17 6
  rintro _ _ ⟨rfl, v1, rfl, hv1, hp2⟩
  show qr_W (qe L xs vb) (d + 1) qx_e126 _ (8, _, [.int (qz v1)], qw σ α κ ρ, 0, 0)
  refine qr_if_eq 20 11 rfl rfl rfl (qrg hv1 (by decide) (by decide)) (fun h4 => ?_) (fun h4 => ?_)
  · skip
    refine qr_iconst 21 rfl rfl ?_
    refine qr_retI rfl rfl (by decide) (by decide) ?_
    exact ⟨_, rfl, hI, hF0, (-1), rfl, (by decide), (Or.inl ⟨by omega, rfl⟩)⟩
  · skip
    refine qr_iload_n 12 rfl rfl rfl ?_
    refine qr_if_lt 20 15 rfl rfl rfl r2 (fun h5 => ?_) (fun h5 => ?_)
    · skip
      refine qr_iconst 21 rfl rfl ?_
      refine qr_retI rfl rfl (by decide) (by decide) ?_
      exact ⟨_, rfl, hI, hF0, (-1), rfl, (by decide), (Or.inl ⟨by omega, rfl⟩)⟩
    · skip
      refine qr_iload_n 16 rfl rfl rfl ?_
      refine qr_iconst 17 rfl rfl ?_
      refine qr_icmp_le 22 20 rfl rfl rfl r2 (by decide) (fun h6 => ?_) (fun h6 => ?_)
      · skip
        refine qr_aload_n 23 rfl rfl rfl ?_
        refine qr_get 26 rfl rfl rfl (by decide) rfl ?_
        refine qr_get 29 rfl rfl rfl (by decide) rfl ?_
        refine qr_iload_n 30 rfl rfl rfl ?_
        refine qr_iaload 31 rfl rfl (by omega) (by decide) rfl ?_
        refine qr_topI (fun v7 hv7 => ?_)
        have hs8 : (-2147483648) ≤ v7 ∧ v7 ≤ 2147483647 := by rw [hv7]; exact hI.2.1 21 _ (show _ < 32 by omega)
        refine qr_istore_n _ 32 rfl (by decide) rfl rfl ?_
        refine qr_aload_n 33 rfl rfl rfl ?_
        refine qr_get 36 rfl rfl rfl (by decide) rfl ?_
        refine qr_get 39 rfl rfl rfl (by decide) rfl ?_
        refine qr_iload_n 40 rfl rfl rfl ?_
        refine qr_iload_n 41 rfl rfl rfl ?_
        refine qr_iastore 42 rfl (by decide) rfl (by omega) (by decide) rfl ?_
        refine qy_wA (qw_r α 21 (qzu (α 21) (x1 : Int).toNat x2)) rfl (fun α9 e10 => ?_)
        have hI11 : qI σ α9 κ ρ := by rw [e10]; exact qI_r hI 21 _ rfl (show (-2147483648) ≤ x2 ∧ x2 ≤ 2147483647 by omega)
        have hF12 : qFr [] [21] σ α σ α9 := by rw [e10]; exact qFr_r hF0 21 _ (by decide)
        refine qr_iload_n 43 rfl rfl rfl ?_
        refine qr_retI rfl rfl (by decide) (by decide) ?_
        exact ⟨_, rfl, hI11, hF12, v7, rfl, hs8, (Or.inr (⟨by omega, ((congrFun e10 21).trans (qw_r_eq.trans (congrArg (fun f => qzu f (x1 : Int).toNat x2) rfl)))⟩))⟩
      · skip
        refine qr_iconst 21 rfl rfl ?_
        refine qr_retI rfl rfl (by decide) (by decide) ?_
        exact ⟨_, rfl, hI, hF0, (-1), rfl, (by decide), (Or.inl ⟨by omega, rfl⟩)⟩

set_option maxHeartbeats 4000000 in
set_option maxRecDepth 20000 in
/-- OneRoof$Pegs.isEmpty -/
theorem sf_45_44x {L : Nat} {xs : Nat → Int} {vb : Bool} {d : Nat} {σ α : Nat → Nat → Int} {κ : Nat → Option Nat} {ρ : Nat} {x1 : Int} (hI : qI σ α κ ρ) (r1 : 0 ≤ x1 ∧ x1 ≤ 5) : qm_T (qe L xs vb) (d + 1) 45 [.ref 44, .int (qz x1)] (qw σ α κ ρ) (fun r w' => w' = qw σ α κ ρ ∧ ∃ v : Int, r = some (.int (qz v)) ∧ (0 ≤ v ∧ v ≤ 1) ∧ ((v = 1 ∧ α 45 (x1 : Int).toNat = 6) ∨ (v = 0 ∧ ¬ (α 45 (x1 : Int).toNat = 6)))) := by
  refine qr_start (d := d + 0) qv_e45 (Nat.le_of_ble_eq_true rfl) ?_
  show qr_W (qe L xs vb) (d + 0) qx_e45 _ (0, [(0, .ref 44), (1, .int (qz x1))], [], _, 0, 0)
  refine qr_aload_n 1 rfl rfl rfl ?_
  refine qr_get 4 rfl rfl rfl (by decide) rfl ?_
  refine qr_iload_n 5 rfl rfl rfl ?_
  refine qr_iaload 6 rfl rfl (qrgi r1 (by decide) (by decide)) (by decide) rfl ?_
  refine qr_topI (fun v1 hv1 => ?_)
  have hs2 : 0 ≤ v1 ∧ v1 ≤ 6 := by rw [hv1]; exact hI.2.1 45 _ (show _ < 6 from qrgt r1 (by decide) (by decide))
  refine qr_bipush 8 rfl (by decide) rfl ?_
  refine qr_icmp_ne 15 11 rfl rfl rfl (qrg hs2 (by decide) (by decide)) (by decide) (fun h3 => ?_) (fun h3 => ?_)
  · skip
    refine qr_iconst 16 rfl rfl ?_
    refine qr_retZ rfl rfl (Or.inl rfl) (by decide) (by decide) ?_
    exact ⟨rfl, 0, rfl, (by decide), by omega⟩
  · skip
    refine qr_iconst 12 rfl rfl ?_
    refine qr_goto 16 rfl rfl ?_
    refine qr_retZ rfl rfl (Or.inr rfl) (by decide) (by decide) ?_
    exact ⟨rfl, 1, rfl, (by decide), by omega⟩

set_option maxHeartbeats 4000000 in
set_option maxRecDepth 20000 in
/-- OneRoof$Pegs.isRow -/
theorem sf_47_44x {L : Nat} {xs : Nat → Int} {vb : Bool} {d : Nat} {σ α : Nat → Nat → Int} {κ : Nat → Option Nat} {ρ : Nat} {x1 : Int} (hI : qI σ α κ ρ) (r1 : 0 ≤ x1 ∧ x1 ≤ 5) : qm_T (qe L xs vb) (d + 1) 47 [.ref 44, .int (qz x1)] (qw σ α κ ρ) (fun r w' => w' = qw σ α κ ρ ∧ ∃ v : Int, r = some (.int (qz v)) ∧ (0 ≤ v ∧ v ≤ 1) ∧ ((v = 1 ∧ α 45 (x1 : Int).toNat < 5) ∨ (v = 0 ∧ ¬ (α 45 (x1 : Int).toNat < 5)))) := by
  refine qr_start (d := d + 0) qv_e47 (Nat.le_of_ble_eq_true rfl) ?_
  show qr_W (qe L xs vb) (d + 0) qx_e47 _ (0, [(0, .ref 44), (1, .int (qz x1))], [], _, 0, 0)
  refine qr_aload_n 1 rfl rfl rfl ?_
  refine qr_get 4 rfl rfl rfl (by decide) rfl ?_
  refine qr_iload_n 5 rfl rfl rfl ?_
  refine qr_iaload 6 rfl rfl (qrgi r1 (by decide) (by decide)) (by decide) rfl ?_
  refine qr_topI (fun v1 hv1 => ?_)
  have hs2 : 0 ≤ v1 ∧ v1 ≤ 6 := by rw [hv1]; exact hI.2.1 45 _ (show _ < 6 from qrgt r1 (by decide) (by decide))
  refine qr_iconst 7 rfl rfl ?_
  refine qr_icmp_ge 14 10 rfl rfl rfl (qrg hs2 (by decide) (by decide)) (by decide) (fun h3 => ?_) (fun h3 => ?_)
  · skip
    refine qr_iconst 15 rfl rfl ?_
    refine qr_retZ rfl rfl (Or.inl rfl) (by decide) (by decide) ?_
    exact ⟨rfl, 0, rfl, (by decide), by omega⟩
  · skip
    refine qr_iconst 11 rfl rfl ?_
    refine qr_goto 15 rfl rfl ?_
    refine qr_retZ rfl rfl (Or.inr rfl) (by decide) (by decide) ?_
    exact ⟨rfl, 1, rfl, (by decide), by omega⟩

set_option maxHeartbeats 4000000 in
set_option maxRecDepth 20000 in
/-- OneRoof$Pegs.isRowOf -/
theorem sf_46_44x {L : Nat} {xs : Nat → Int} {vb : Bool} {d : Nat} {σ α : Nat → Nat → Int} {κ : Nat → Option Nat} {ρ : Nat} {x1 : Int} {x2 : Int} (hI : qI σ α κ ρ) (r1 : 0 ≤ x1 ∧ x1 ≤ 5) (r2 : (-2147483648) ≤ x2 ∧ x2 ≤ 2147483647) : qm_T (qe L xs vb) (d + 2) 46 [.ref 44, .int (qz x1), .int (qz x2)] (qw σ α κ ρ) (fun r w' => w' = qw σ α κ ρ ∧ ∃ v : Int, r = some (.int (qz v)) ∧ (0 ≤ v ∧ v ≤ 1) ∧ ((v = 1 ∧ (α 45 (x1 : Int).toNat < 5 ∧ α 45 (x1 : Int).toNat = x2)) ∨ (v = 0 ∧ ¬ ((α 45 (x1 : Int).toNat < 5 ∧ α 45 (x1 : Int).toNat = x2))))) := by
  refine qr_start (d := d + 1) qv_e46 (Nat.le_of_ble_eq_true rfl) ?_
  show qr_W (qe L xs vb) (d + 1) qx_e46 _ (0, [(0, .ref 44), (1, .int (qz x1)), (2, .int (qz x2))], [], _, 0, 0)
  refine qr_aload_n 1 rfl rfl rfl ?_
  refine qr_iload_n 2 rfl rfl rfl ?_
  refine qr_callN 5 rfl rfl rfl (sf_47_44x (d := d + 0) hI r1) ?_
  rintro _ _ ⟨rfl, v1, rfl, hv1, hp2⟩
  show qr_W (qe L xs vb) (d + 1) qx_e46 _ (5, _, [.int (qz v1)], qw σ α κ ρ, 0, 0)
  refine qr_if_eq 22 8 rfl rfl rfl (qrg hv1 (by decide) (by decide)) (fun h3 => ?_) (fun h3 => ?_)
  · skip
    refine qr_iconst 23 rfl rfl ?_
    refine qr_retZ rfl rfl (Or.inl rfl) (by decide) (by decide) ?_
    exact ⟨rfl, 0, rfl, (by decide), by omega⟩
  · skip
    refine qr_aload_n 9 rfl rfl rfl ?_
    refine qr_get 12 rfl rfl rfl (by decide) rfl ?_
    refine qr_iload_n 13 rfl rfl rfl ?_
    refine qr_iaload 14 rfl rfl (qrgi r1 (by decide) (by decide)) (by decide) rfl ?_
    refine qr_topI (fun v4 hv4 => ?_)
    have hs5 : 0 ≤ v4 ∧ v4 ≤ 6 := by rw [hv4]; exact hI.2.1 45 _ (show _ < 6 from qrgt r1 (by decide) (by decide))
    refine qr_iload_n 15 rfl rfl rfl ?_
    refine qr_icmp_ne 22 18 rfl rfl rfl (qrg hs5 (by decide) (by decide)) r2 (fun h6 => ?_) (fun h6 => ?_)
    · skip
      refine qr_iconst 23 rfl rfl ?_
      refine qr_retZ rfl rfl (Or.inl rfl) (by decide) (by decide) ?_
      exact ⟨rfl, 0, rfl, (by decide), by omega⟩
    · skip
      refine qr_iconst 19 rfl rfl ?_
      refine qr_goto 23 rfl rfl ?_
      refine qr_retZ rfl rfl (Or.inr rfl) (by decide) (by decide) ?_
      exact ⟨rfl, 1, rfl, (by decide), by omega⟩

set_option maxHeartbeats 4000000 in
set_option maxRecDepth 20000 in
/-- OneRoof$Pegs.hang -/
theorem sf_156_44x {L : Nat} {xs : Nat → Int} {vb : Bool} {d : Nat} {σ α : Nat → Nat → Int} {κ : Nat → Option Nat} {ρ : Nat} {x1 : Int} {x2 : Int} (hI : qI σ α κ ρ) (r1 : 0 ≤ x1 ∧ x1 ≤ 5) (r2 : (-1) ≤ x2 ∧ x2 ≤ 59) : qm_T (qe L xs vb) (d + 1) 156 [.ref 44, .int (qz x1), .int (qz x2)] (qw σ α κ ρ) (fun r w' => ∃ α', w' = qw σ α' κ ρ ∧ qI σ α' κ ρ ∧ qFr [] [45, 46, 47] σ α σ α' ∧ r = none ∧ α' 45 = qzu (α 45) (x1 : Int).toNat (if x2 < 0 then 6 else 5) ∧ α' 46 = qzu (α 46) (x1 : Int).toNat (0) ∧ α' 47 = qzu (α 47) (x1 : Int).toNat (x2)) := by
  refine qr_start (d := d + 0) qv_e156 (Nat.le_of_ble_eq_true rfl) ?_
  show qr_W (qe L xs vb) (d + 0) qx_e156 _ (0, [(0, .ref 44), (1, .int (qz x1)), (2, .int (qz x2))], [], _, 0, 0)
  have hF0 := qFr_rf [] [45, 46, 47] σ α
  refine qr_aload_n 1 rfl rfl rfl ?_
  refine qr_get 4 rfl rfl rfl (by decide) rfl ?_
  refine qr_iload_n 5 rfl rfl rfl ?_
  refine qr_iload_n 6 rfl rfl rfl ?_
  refine qr_if_ge 14 9 rfl rfl rfl (qrg r2 (by decide) (by decide)) (fun h1 => ?_) (fun h1 => ?_)
  · skip
    refine qr_iconst 15 rfl rfl ?_
    refine qr_iastore 16 rfl (by decide) rfl (qrgi r1 (by decide) (by decide)) (by decide) rfl ?_
    refine qy_wA (qw_r α 45 (qzu (α 45) (x1 : Int).toNat 5)) rfl (fun α2 e3 => ?_)
    have hI4 : qI σ α2 κ ρ := by rw [e3]; exact qI_r hI 45 _ rfl (show 0 ≤ 5 ∧ 5 ≤ 6 by omega)
    have hF5 : qFr [] [45, 46, 47] σ α σ α2 := by rw [e3]; exact qFr_r hF0 45 _ (by decide)
    refine qr_aload_n 17 rfl rfl rfl ?_
    refine qr_get 20 rfl rfl rfl (by decide) rfl ?_
    refine qr_iload_n 21 rfl rfl rfl ?_
    refine qr_iload_n 22 rfl rfl rfl ?_
    refine qr_iastore 23 rfl (by decide) rfl (qrgi r1 (by decide) (by decide)) (by decide) rfl ?_
    refine qy_wA (qw_r α2 47 (qzu (α2 47) (x1 : Int).toNat x2)) rfl (fun α6 e7 => ?_)
    have hI8 : qI σ α6 κ ρ := by rw [e7]; exact qI_r hI4 47 _ rfl (show (-1) ≤ x2 ∧ x2 ≤ 59 by omega)
    have hF9 : qFr [] [45, 46, 47] σ α σ α6 := by rw [e7]; exact qFr_r hF5 47 _ (by decide)
    refine qr_aload_n 24 rfl rfl rfl ?_
    refine qr_get 27 rfl rfl rfl (by decide) rfl ?_
    refine qr_iload_n 28 rfl rfl rfl ?_
    refine qr_iconst 29 rfl rfl ?_
    refine qr_iastore 30 rfl (by decide) rfl (qrgi r1 (by decide) (by decide)) (by decide) rfl ?_
    refine qy_wA (qw_r α6 46 (qzu (α6 46) (x1 : Int).toNat 0)) rfl (fun α10 e11 => ?_)
    have hI12 : qI σ α10 κ ρ := by rw [e11]; exact qI_r hI8 46 _ rfl (show 0 ≤ 0 ∧ 0 ≤ 60 by omega)
    have hF13 : qFr [] [45, 46, 47] σ α σ α10 := by rw [e11]; exact qFr_r hF9 46 _ (by decide)
    refine qr_retV rfl rfl (by decide) (by decide) ?_
    exact ⟨_, rfl, hI12, hF13, rfl, (((congrFun e11 45).trans ((qw_r_ne (by decide)).trans ((congrFun e7 45).trans ((qw_r_ne (by decide)).trans ((congrFun e3 45).trans (qw_r_eq.trans (congrArg (fun f => qzu f (x1 : Int).toNat 5) rfl))))))).trans (by rw [if_neg (by omega)])), ((congrFun e11 46).trans (qw_r_eq.trans (congrArg (fun f => qzu f (x1 : Int).toNat 0) ((congrFun e7 46).trans ((qw_r_ne (by decide)).trans ((congrFun e3 46).trans ((qw_r_ne (by decide)).trans rfl))))))), ((congrFun e11 47).trans ((qw_r_ne (by decide)).trans ((congrFun e7 47).trans (qw_r_eq.trans (congrArg (fun f => qzu f (x1 : Int).toNat x2) ((congrFun e3 47).trans ((qw_r_ne (by decide)).trans rfl)))))))⟩
  · skip
    refine qr_bipush 11 rfl (by decide) rfl ?_
    refine qr_goto 15 rfl rfl ?_
    refine qr_iastore 16 rfl (by decide) rfl (qrgi r1 (by decide) (by decide)) (by decide) rfl ?_
    refine qy_wA (qw_r α 45 (qzu (α 45) (x1 : Int).toNat 6)) rfl (fun α14 e15 => ?_)
    have hI16 : qI σ α14 κ ρ := by rw [e15]; exact qI_r hI 45 _ rfl (show 0 ≤ 6 ∧ 6 ≤ 6 by omega)
    have hF17 : qFr [] [45, 46, 47] σ α σ α14 := by rw [e15]; exact qFr_r hF0 45 _ (by decide)
    refine qr_aload_n 17 rfl rfl rfl ?_
    refine qr_get 20 rfl rfl rfl (by decide) rfl ?_
    refine qr_iload_n 21 rfl rfl rfl ?_
    refine qr_iload_n 22 rfl rfl rfl ?_
    refine qr_iastore 23 rfl (by decide) rfl (qrgi r1 (by decide) (by decide)) (by decide) rfl ?_
    refine qy_wA (qw_r α14 47 (qzu (α14 47) (x1 : Int).toNat x2)) rfl (fun α18 e19 => ?_)
    have hI20 : qI σ α18 κ ρ := by rw [e19]; exact qI_r hI16 47 _ rfl (show (-1) ≤ x2 ∧ x2 ≤ 59 by omega)
    have hF21 : qFr [] [45, 46, 47] σ α σ α18 := by rw [e19]; exact qFr_r hF17 47 _ (by decide)
    refine qr_aload_n 24 rfl rfl rfl ?_
    refine qr_get 27 rfl rfl rfl (by decide) rfl ?_
    refine qr_iload_n 28 rfl rfl rfl ?_
    refine qr_iconst 29 rfl rfl ?_
    refine qr_iastore 30 rfl (by decide) rfl (qrgi r1 (by decide) (by decide)) (by decide) rfl ?_
    refine qy_wA (qw_r α18 46 (qzu (α18 46) (x1 : Int).toNat 0)) rfl (fun α22 e23 => ?_)
    have hI24 : qI σ α22 κ ρ := by rw [e23]; exact qI_r hI20 46 _ rfl (show 0 ≤ 0 ∧ 0 ≤ 60 by omega)
    have hF25 : qFr [] [45, 46, 47] σ α σ α22 := by rw [e23]; exact qFr_r hF21 46 _ (by decide)
    refine qr_retV rfl rfl (by decide) (by decide) ?_
    exact ⟨_, rfl, hI24, hF25, rfl, (((congrFun e23 45).trans ((qw_r_ne (by decide)).trans ((congrFun e19 45).trans ((qw_r_ne (by decide)).trans ((congrFun e15 45).trans (qw_r_eq.trans (congrArg (fun f => qzu f (x1 : Int).toNat 6) rfl))))))).trans (by rw [if_pos (by omega)])), ((congrFun e23 46).trans (qw_r_eq.trans (congrArg (fun f => qzu f (x1 : Int).toNat 0) ((congrFun e19 46).trans ((qw_r_ne (by decide)).trans ((congrFun e15 46).trans ((qw_r_ne (by decide)).trans rfl))))))), ((congrFun e23 47).trans ((qw_r_ne (by decide)).trans ((congrFun e19 47).trans (qw_r_eq.trans (congrArg (fun f => qzu f (x1 : Int).toNat x2) ((congrFun e15 47).trans ((qw_r_ne (by decide)).trans rfl)))))))⟩

set_option maxHeartbeats 4000000 in
set_option maxRecDepth 20000 in
/-- OneRoof.keep -/
theorem sf_155_16x {L : Nat} {xs : Nat → Int} {vb : Bool} {d : Nat} {σ α : Nat → Nat → Int} {κ : Nat → Option Nat} {ρ : Nat} {x1 : Int} {x2 : Int} (hI : qI σ α κ ρ) (r1 : (-2147483648) ≤ x1 ∧ x1 ≤ 2147483647) (r2 : (-2147483648) ≤ x2 ∧ x2 ≤ 2147483647) : qm_T (qe L xs vb) (d + 2) 155 [.ref 16, .int (qz x1), .int (qz x2)] (qw σ α κ ρ) (fun r w' => ∃ α', w' = qw σ α' κ ρ ∧ qI σ α' κ ρ ∧ qFr [] [45, 46, 47] σ α σ α' ∧ ∃ v : Int, r = some (.int (qz v)) ∧ ((-2147483648) ≤ v ∧ v ≤ 2147483647) ∧ (((v = -1 ∧ ¬ (0 ≤ x1 ∧ x1 ≤ 5 ∧ (x2 = -1 ∨ (0 ≤ x2 ∧ x2 < σ 34 7)))) ∧ α' 45 = α 45 ∧ α' 46 = α 46 ∧ α' 47 = α 47) ∨ ((v = 1 ∧ (0 ≤ x1 ∧ x1 ≤ 5 ∧ (x2 = -1 ∨ (0 ≤ x2 ∧ x2 < σ 34 7)))) ∧ α' 45 = qzu (α 45) (x1 : Int).toNat (if x2 < 0 then 6 else 5) ∧ α' 46 = qzu (α 46) (x1 : Int).toNat (0) ∧ α' 47 = qzu (α 47) (x1 : Int).toNat (x2)))) := by
  refine qr_start (d := d + 1) qv_e155 (Nat.le_of_ble_eq_true rfl) ?_
  show qr_W (qe L xs vb) (d + 1) qx_e155 _ (0, [(0, .ref 16), (1, .int (qz x1)), (2, .int (qz x2))], [], _, 0, 0)
  have hF0 := qFr_rf [] [45, 46, 47] σ α
  have hz34_7 : 0 ≤ σ 34 7 ∧ σ 34 7 ≤ 60 := hI.1 34 7
  refine qr_aload_n 1 rfl rfl rfl ?_
  refine qr_get 4 rfl rfl rfl (by decide) rfl ?_
  refine qr_iload_n 5 rfl rfl rfl ?_
  refine qr_callN 8 rfl rfl rfl (sf_44_44 (d := d + 0) hI r1) ?_
  rintro _ _ ⟨rfl, v1, rfl, hv1, hp2⟩
  show qr_W (qe L xs vb) (d + 1) qx_e155 _ (8, _, [.int (qz v1)], qw σ α κ ρ, 0, 0)
  refine qr_if_eq 27 11 rfl rfl rfl (qrg hv1 (by decide) (by decide)) (fun h3 => ?_) (fun h3 => ?_)
  · skip
    refine qr_iconst 28 rfl rfl ?_
    refine qr_retI rfl rfl (by decide) (by decide) ?_
    exact ⟨_, rfl, hI, hF0, (-1), rfl, (by decide), (Or.inl ⟨by omega, rfl, rfl, rfl⟩)⟩
  · skip
    refine qr_iload_n 12 rfl rfl rfl ?_
    refine qr_iconst 13 rfl rfl ?_
    refine qr_icmp_eq 29 16 rfl rfl rfl r2 (by decide) (fun h4 => ?_) (fun h4 => ?_)
    · skip
      refine qr_aload_n 30 rfl rfl rfl ?_
      refine qr_get 33 rfl rfl rfl (by decide) rfl ?_
      refine qr_iload_n 34 rfl rfl rfl ?_
      refine qr_iload_n 35 rfl rfl rfl ?_
      refine qr_callN 38 rfl rfl rfl (sf_156_44x (d := d + 0) hI (by omega) (by omega)) ?_
      rintro _ _ ⟨α8, rfl, hI9, hG10, rfl, hx5, hx6, hx7⟩
      have hF11 : qFr [] [45, 46, 47] σ α σ α8 := qFr_t hF0 hG10 (by decide) (by decide)
      show qr_W (qe L xs vb) (d + 1) qx_e155 _ (38, _, [], qw σ α8 κ ρ, 0, 0)
      refine qr_iconst 39 rfl rfl ?_
      refine qr_retI rfl rfl (by decide) (by decide) ?_
      exact ⟨_, rfl, hI9, hF11, 1, rfl, (by decide), (Or.inr (⟨by omega, (hx5.trans (congrArg (fun f => qzu (f) (x1 : Int).toNat (if x2 < 0 then 6 else 5)) rfl)), (hx6.trans (congrArg (fun f => qzu (f) (x1 : Int).toNat (0)) rfl)), (hx7.trans (congrArg (fun f => qzu (f) (x1 : Int).toNat (x2)) rfl))⟩))⟩
    · skip
      refine qr_aload_n 17 rfl rfl rfl ?_
      refine qr_get 20 rfl rfl rfl (by decide) rfl ?_
      refine qr_iload_n 21 rfl rfl rfl ?_
      refine qr_callN 24 rfl rfl rfl (sf_73_34 (d := d + 0) hI r2) ?_
      have hs14 : 0 ≤ σ 34 7 ∧ σ 34 7 ≤ 60 := hI.1 34 7
      rintro _ _ ⟨rfl, v12, rfl, hv12, hp13⟩
      show qr_W (qe L xs vb) (d + 1) qx_e155 _ (24, _, [.int (qz v12)], qw σ α κ ρ, 0, 0)
      refine qr_if_ne 29 27 rfl rfl rfl (qrg hv12 (by decide) (by decide)) (fun h15 => ?_) (fun h15 => ?_)
      · skip
        refine qr_aload_n 30 rfl rfl rfl ?_
        refine qr_get 33 rfl rfl rfl (by decide) rfl ?_
        refine qr_iload_n 34 rfl rfl rfl ?_
        refine qr_iload_n 35 rfl rfl rfl ?_
        refine qr_callN 38 rfl rfl rfl (sf_156_44x (d := d + 0) hI (by omega) (by omega)) ?_
        rintro _ _ ⟨α19, rfl, hI20, hG21, rfl, hx16, hx17, hx18⟩
        have hF22 : qFr [] [45, 46, 47] σ α σ α19 := qFr_t hF0 hG21 (by decide) (by decide)
        show qr_W (qe L xs vb) (d + 1) qx_e155 _ (38, _, [], qw σ α19 κ ρ, 0, 0)
        refine qr_iconst 39 rfl rfl ?_
        refine qr_retI rfl rfl (by decide) (by decide) ?_
        exact ⟨_, rfl, hI20, hF22, 1, rfl, (by decide), (Or.inr (⟨by omega, (hx16.trans (congrArg (fun f => qzu (f) (x1 : Int).toNat (if x2 < 0 then 6 else 5)) rfl)), (hx17.trans (congrArg (fun f => qzu (f) (x1 : Int).toNat (0)) rfl)), (hx18.trans (congrArg (fun f => qzu (f) (x1 : Int).toNat (x2)) rfl))⟩))⟩
      · skip
        refine qr_iconst 28 rfl rfl ?_
        refine qr_retI rfl rfl (by decide) (by decide) ?_
        exact ⟨_, rfl, hI, hF0, (-1), rfl, (by decide), (Or.inl ⟨by omega, rfl, rfl, rfl⟩)⟩

set_option maxHeartbeats 4000000 in
set_option maxRecDepth 20000 in
/-- OneRoof$Pegs.hangRow -/
theorem sf_158_44x {L : Nat} {xs : Nat → Int} {vb : Bool} {d : Nat} {σ α : Nat → Nat → Int} {κ : Nat → Option Nat} {ρ : Nat} {x1 : Int} {x2 : Int} {x3 : Int} (hI : qI σ α κ ρ) (r1 : 0 ≤ x1 ∧ x1 ≤ 5) (r2 : 0 ≤ x2 ∧ x2 ≤ 4) (r3 : 0 ≤ x3 ∧ x3 ≤ 60) : qm_T (qe L xs vb) (d + 1) 158 [.ref 44, .int (qz x1), .int (qz x2), .int (qz x3)] (qw σ α κ ρ) (fun r w' => ∃ α', w' = qw σ α' κ ρ ∧ qI σ α' κ ρ ∧ qFr [] [45, 46, 48] σ α σ α' ∧ r = none ∧ α' 45 = qzu (α 45) (x1 : Int).toNat (x2) ∧ α' 46 = qzu (α 46) (x1 : Int).toNat (x3) ∧ α' 48 = qzfl (α 48) (x1 * 60 : Int).toNat (x3 : Int).toNat) := by
  refine qr_start (d := d + 0) qv_e158 (Nat.le_of_ble_eq_true rfl) ?_
  show qr_W (qe L xs vb) (d + 0) qx_e158 _ (0, [(0, .ref 44), (1, .int (qz x1)), (2, .int (qz x2)), (3, .int (qz x3))], [], _, 0, 0)
  have hF0 := qFr_rf [] [45, 46, 48] σ α
  refine qr_aload_n 1 rfl rfl rfl ?_
  refine qr_get 4 rfl rfl rfl (by decide) rfl ?_
  refine qr_iload_n 5 rfl rfl rfl ?_
  refine qr_iload_n 6 rfl rfl rfl ?_
  refine qr_iastore 7 rfl (by decide) rfl (qrgi r1 (by decide) (by decide)) (by decide) rfl ?_
  refine qy_wA (qw_r α 45 (qzu (α 45) (x1 : Int).toNat x2)) rfl (fun α1 e2 => ?_)
  have hI3 : qI σ α1 κ ρ := by rw [e2]; exact qI_r hI 45 _ rfl (show 0 ≤ x2 ∧ x2 ≤ 6 by omega)
  have hF4 : qFr [] [45, 46, 48] σ α σ α1 := by rw [e2]; exact qFr_r hF0 45 _ (by decide)
  refine qr_aload_n 8 rfl rfl rfl ?_
  refine qr_get 11 rfl rfl rfl (by decide) rfl ?_
  refine qr_iload_n 12 rfl rfl rfl ?_
  refine qr_iload_n 13 rfl rfl rfl ?_
  refine qr_iastore 14 rfl (by decide) rfl (qrgi r1 (by decide) (by decide)) (by decide) rfl ?_
  refine qy_wA (qw_r α1 46 (qzu (α1 46) (x1 : Int).toNat x3)) rfl (fun α5 e6 => ?_)
  have hI7 : qI σ α5 κ ρ := by rw [e6]; exact qI_r hI3 46 _ rfl (show 0 ≤ x3 ∧ x3 ≤ 60 by omega)
  have hF8 : qFr [] [45, 46, 48] σ α σ α5 := by rw [e6]; exact qFr_r hF4 46 _ (by decide)
  refine qr_iconst 15 rfl rfl ?_
  refine qr_istore _ 17 rfl (by decide) rfl rfl ?_
  have hL215 : ∀ (n : Nat) (ls : qm_L) (u205 : Int) (α207 : Nat → Nat → Int), 60 - u205 < (n : Int) → qm_get ls 0 = some (.ref 44) → qm_get ls 1 = some (.int (qz x1)) → qm_get ls 3 = some (.int (qz x3)) → qm_get ls 4 = some (.int (qz u205)) → (0 ≤ u205 ∧ u205 ≤ 60) → qI σ α207 κ ρ → qFr [] [45, 46, 48] σ α σ α207 → α207 48 = (qzfl (α 48) (x1 * 60 : Int).toNat (u205 : Int).toNat) → α207 45 = (qzu (α 45) (x1 : Int).toNat x2) → α207 46 = (qzu (α 46) (x1 : Int).toNat x3) → u205 ≤ x3 → qr_W (qe L xs vb) (d + 0) qx_e158 (fun r w' => ∃ α', w' = qw σ α' κ ρ ∧ qI σ α' κ ρ ∧ qFr [] [45, 46, 48] σ α σ α' ∧ r = none ∧ α' 45 = qzu (α 45) (x1 : Int).toNat (x2) ∧ α' 46 = qzu (α 46) (x1 : Int).toNat (x3) ∧ α' 48 = qzfl (α 48) (x1 * 60 : Int).toNat (x3 : Int).toNat) (17, ls, [], qw σ α207 κ ρ, 0, 0) := by
    intro n
    induction n with
    | zero => intro ls u205 α207 hm g201 g202 g203 g204 hf210 hI208 hF209 hx211 hx212 hx213 hx214; exact False.elim (by omega)
    | succ n ih216 =>
      intro ls u205 α207 hm g201 g202 g203 g204 hf210 hI208 hF209 hx211 hx212 hx213 hx214
      refine qr_iload 19 rfl g204 rfl ?_
      refine qr_iload_n 20 rfl g203 rfl ?_
      refine qr_icmp_ge 42 23 rfl rfl rfl (qrg hf210 (by decide) (by decide)) (qrg r3 (by decide) (by decide)) (fun h217 => ?_) (fun h217 => ?_)
      · skip
        refine qr_retV rfl rfl (by decide) (by decide) ?_
        exact ⟨_, rfl, hI208, hF209, rfl, hx212, hx213, (hx211.trans (by congr 1; omega))⟩
      · skip
        refine qr_aload_n 24 rfl g201 rfl ?_
        refine qr_get 27 rfl rfl rfl (by decide) rfl ?_
        refine qr_iload_n 28 rfl g202 rfl ?_
        refine qr_bipush 30 rfl (by decide) rfl ?_
        refine qr_imul 31 rfl rfl ?_
        refine qr_iload 33 rfl g204 rfl ?_
        refine qr_iadd 34 rfl rfl ?_
        refine qr_lconst 35 rfl rfl ?_
        refine qy_vl 0 rfl ?_
        refine qr_lastore 36 rfl (by decide) rfl (by omega) (by decide) rfl ?_
        refine qy_wA (qw_r α207 48 (qzu (α207 48) (((x1 * 60) + u205) : Int).toNat 0)) rfl (fun α218 e219 => ?_)
        have hI220 : qI σ α218 κ ρ := by rw [e219]; exact qI_r hI208 48 _ rfl (show (-9223372036854775808) ≤ 0 ∧ 0 ≤ 9223372036854775807 by omega)
        have hF221 : qFr [] [45, 46, 48] σ α σ α218 := by rw [e219]; exact qFr_r hF209 48 _ (by decide)
        refine qr_iinc _ 39 rfl g204 (by decide) rfl rfl ?_
        refine qr_goto 17 rfl rfl ?_
        exact ih216 _ (u205 + 1) α218 (by omega) (qm_gk g201 (by decide) (Or.inl (by decide))) (qm_gk g202 (by decide) (Or.inl (by decide))) (qm_gk g203 (by decide) (Or.inr rfl)) (qm_ge _ _ _) (by omega) hI220 hF221 (((congrFun e219 48).trans (qw_r_eq.trans (congrArg (fun f => qzu f (((x1 * 60) + u205) : Int).toNat 0) hx211))).trans (qzfl_s (by omega) (by omega))) ((congrFun e219 45).trans ((qw_r_ne (by decide)).trans hx212)) ((congrFun e219 46).trans ((qw_r_ne (by decide)).trans hx213)) (by omega)
  exact hL215 ((60 - 0 + 1 : Int)).toNat _ 0 α5 (by omega) rfl rfl rfl rfl (by decide) hI7 hF8 (((congrFun e6 48).trans ((qw_r_ne (by decide)).trans ((congrFun e2 48).trans ((qw_r_ne (by decide)).trans rfl)))).trans (qzfl_0 _ _)) ((congrFun e6 45).trans ((qw_r_ne (by decide)).trans ((congrFun e2 45).trans (qw_r_eq.trans (congrArg (fun f => qzu f (x1 : Int).toNat x2) rfl))))) ((congrFun e6 46).trans (qw_r_eq.trans (congrArg (fun f => qzu f (x1 : Int).toNat x3) ((congrFun e2 46).trans ((qw_r_ne (by decide)).trans rfl))))) (by omega)

set_option maxHeartbeats 4000000 in
set_option maxRecDepth 20000 in
/-- OneRoof.row -/
theorem sf_157_16x {L : Nat} {xs : Nat → Int} {vb : Bool} {d : Nat} {σ α : Nat → Nat → Int} {κ : Nat → Option Nat} {ρ : Nat} {x1 : Int} {x2 : Int} {x3 : Int} (hI : qI σ α κ ρ) (r1 : (-2147483648) ≤ x1 ∧ x1 ≤ 2147483647) (r2 : (-2147483648) ≤ x2 ∧ x2 ≤ 2147483647) (r3 : (-2147483648) ≤ x3 ∧ x3 ≤ 2147483647) : qm_T (qe L xs vb) (d + 2) 157 [.ref 16, .int (qz x1), .int (qz x2), .int (qz x3)] (qw σ α κ ρ) (fun r w' => ∃ α', w' = qw σ α' κ ρ ∧ qI σ α' κ ρ ∧ qFr [] [45, 46, 48] σ α σ α' ∧ ∃ v : Int, r = some (.int (qz v)) ∧ ((-2147483648) ≤ v ∧ v ≤ 2147483647) ∧ (((v = -1 ∧ ¬ (0 ≤ x1 ∧ x1 ≤ 5 ∧ 0 ≤ x2 ∧ x2 ≤ 4 ∧ x3 ≤ 60)) ∧ α' 45 = α 45 ∧ α' 46 = α 46 ∧ α' 48 = α 48) ∨ ((v = -14 ∧ (0 ≤ x1 ∧ x1 ≤ 5 ∧ 0 ≤ x2 ∧ x2 ≤ 4 ∧ x3 ≤ 60) ∧ x3 < 0) ∧ α' 45 = α 45 ∧ α' 46 = α 46 ∧ α' 48 = α 48) ∨ ((v = 1 ∧ (0 ≤ x1 ∧ x1 ≤ 5 ∧ 0 ≤ x2 ∧ x2 ≤ 4 ∧ x3 ≤ 60) ∧ 0 ≤ x3) ∧ α' 45 = qzu (α 45) (x1 : Int).toNat (x2) ∧ α' 46 = qzu (α 46) (x1 : Int).toNat (x3) ∧ α' 48 = qzfl (α 48) (x1 * 60 : Int).toNat (x3 : Int).toNat))) := by
  refine qr_start (d := d + 1) qv_e157 (Nat.le_of_ble_eq_true rfl) ?_
  show qr_W (qe L xs vb) (d + 1) qx_e157 _ (0, [(0, .ref 16), (1, .int (qz x1)), (2, .int (qz x2)), (3, .int (qz x3))], [], _, 0, 0)
  have hF0 := qFr_rf [] [45, 46, 48] σ α
  refine qr_aload_n 1 rfl rfl rfl ?_
  refine qr_get 4 rfl rfl rfl (by decide) rfl ?_
  refine qr_iload_n 5 rfl rfl rfl ?_
  refine qr_callN 8 rfl rfl rfl (sf_44_44 (d := d + 0) hI r1) ?_
  rintro _ _ ⟨rfl, v1, rfl, hv1, hp2⟩
  show qr_W (qe L xs vb) (d + 1) qx_e157 _ (8, _, [.int (qz v1)], qw σ α κ ρ, 0, 0)
  refine qr_if_eq 26 11 rfl rfl rfl (qrg hv1 (by decide) (by decide)) (fun h3 => ?_) (fun h3 => ?_)
  · skip
    refine qr_iconst 27 rfl rfl ?_
    refine qr_retI rfl rfl (by decide) (by decide) ?_
    exact ⟨_, rfl, hI, hF0, (-1), rfl, (by decide), (Or.inl ⟨by omega, rfl, rfl, rfl⟩)⟩
  · skip
    refine qr_iload_n 12 rfl rfl rfl ?_
    refine qr_if_lt 26 15 rfl rfl rfl r2 (fun h4 => ?_) (fun h4 => ?_)
    · skip
      refine qr_iconst 27 rfl rfl ?_
      refine qr_retI rfl rfl (by decide) (by decide) ?_
      exact ⟨_, rfl, hI, hF0, (-1), rfl, (by decide), (Or.inl ⟨by omega, rfl, rfl, rfl⟩)⟩
    · skip
      refine qr_iload_n 16 rfl rfl rfl ?_
      refine qr_iconst 17 rfl rfl ?_
      refine qr_icmp_ge 26 20 rfl rfl rfl r2 (by decide) (fun h5 => ?_) (fun h5 => ?_)
      · skip
        refine qr_iconst 27 rfl rfl ?_
        refine qr_retI rfl rfl (by decide) (by decide) ?_
        exact ⟨_, rfl, hI, hF0, (-1), rfl, (by decide), (Or.inl ⟨by omega, rfl, rfl, rfl⟩)⟩
      · skip
        refine qr_iload_n 21 rfl rfl rfl ?_
        refine qr_bipush 23 rfl (by decide) rfl ?_
        refine qr_icmp_le 28 26 rfl rfl rfl r3 (by decide) (fun h6 => ?_) (fun h6 => ?_)
        · skip
          refine qr_iload_n 29 rfl rfl rfl ?_
          refine qr_if_ge 35 32 rfl rfl rfl r3 (fun h7 => ?_) (fun h7 => ?_)
          · skip
            refine qr_aload_n 36 rfl rfl rfl ?_
            refine qr_get 39 rfl rfl rfl (by decide) rfl ?_
            refine qr_iload_n 40 rfl rfl rfl ?_
            refine qr_iload_n 41 rfl rfl rfl ?_
            refine qr_iload_n 42 rfl rfl rfl ?_
            refine qr_callN 45 rfl rfl rfl (sf_158_44x (d := d + 0) hI (by omega) (by omega) (by omega)) ?_
            rintro _ _ ⟨α11, rfl, hI12, hG13, rfl, hx8, hx9, hx10⟩
            have hF14 : qFr [] [45, 46, 48] σ α σ α11 := qFr_t hF0 hG13 (by decide) (by decide)
            show qr_W (qe L xs vb) (d + 1) qx_e157 _ (45, _, [], qw σ α11 κ ρ, 0, 0)
            refine qr_iconst 46 rfl rfl ?_
            refine qr_retI rfl rfl (by decide) (by decide) ?_
            exact ⟨_, rfl, hI12, hF14, 1, rfl, (by decide), (Or.inr (Or.inr (⟨by omega, (hx8.trans (congrArg (fun f => qzu (f) (x1 : Int).toNat (x2)) rfl)), (hx9.trans (congrArg (fun f => qzu (f) (x1 : Int).toNat (x3)) rfl)), (hx10.trans (congrArg (fun f => qzfl (f) (x1 * 60 : Int).toNat (x3 : Int).toNat) rfl))⟩)))⟩
          · skip
            refine qr_bipush 34 rfl (by decide) rfl ?_
            refine qr_retI rfl rfl (by decide) (by decide) ?_
            exact ⟨_, rfl, hI, hF0, (-14), rfl, (by decide), (Or.inr (Or.inl ⟨by omega, rfl, rfl, rfl⟩))⟩
        · skip
          refine qr_iconst 27 rfl rfl ?_
          refine qr_retI rfl rfl (by decide) (by decide) ?_
          exact ⟨_, rfl, hI, hF0, (-1), rfl, (by decide), (Or.inl ⟨by omega, rfl, rfl, rfl⟩)⟩

set_option maxHeartbeats 4000000 in
set_option maxRecDepth 20000 in
/-- OneRoof$Pegs.refusalAt -/
theorem sf_160_44x {L : Nat} {xs : Nat → Int} {vb : Bool} {d : Nat} {σ α : Nat → Nat → Int} {κ : Nat → Option Nat} {ρ : Nat} {x1 : Int} {x2 : Int} (hI : qI σ α κ ρ) (r1 : 0 ≤ x1 ∧ x1 ≤ 5) (r2 : (-2147483648) ≤ x2 ∧ x2 ≤ 2147483647) : qm_T (qe L xs vb) (d + 2) 160 [.ref 44, .int (qz x1), .int (qz x2)] (qw σ α κ ρ) (fun r w' => w' = qw σ α κ ρ ∧ ∃ v : Int, r = some (.int (qz v)) ∧ ((-13) ≤ v ∧ v ≤ 0) ∧ ((v = -11 ∧ α 45 (x1 : Int).toNat = 6) ∨ (v = -12 ∧ α 45 (x1 : Int).toNat = 5) ∨ (v = -13 ∧ α 45 (x1 : Int).toNat ≤ 4 ∧ ¬ (0 ≤ x2 ∧ x2 < α 46 (x1 : Int).toNat)) ∨ (v = 0 ∧ α 45 (x1 : Int).toNat ≤ 4 ∧ 0 ≤ x2 ∧ x2 < α 46 (x1 : Int).toNat))) := by
  refine qr_start (d := d + 1) qv_e160 (Nat.le_of_ble_eq_true rfl) ?_
  show qr_W (qe L xs vb) (d + 1) qx_e160 _ (0, [(0, .ref 44), (1, .int (qz x1)), (2, .int (qz x2))], [], _, 0, 0)
  have qx1_45 : 0 ≤ x1 ∧ x1 ≤ 5 → 0 ≤ α 45 (x1 : Int).toNat ∧ α 45 (x1 : Int).toNat ≤ 6 := fun h => hI.2.1 45 _ (show (x1 : Int).toNat < 6 by omega)
  have qx1_46 : 0 ≤ x1 ∧ x1 ≤ 5 → 0 ≤ α 46 (x1 : Int).toNat ∧ α 46 (x1 : Int).toNat ≤ 60 := fun h => hI.2.1 46 _ (show (x1 : Int).toNat < 6 by omega)
  refine qr_aload_n 1 rfl rfl rfl ?_
  refine qr_iload_n 2 rfl rfl rfl ?_
  refine qr_callN 5 rfl rfl rfl (sf_45_44x (d := d + 0) hI r1) ?_
  rintro _ _ ⟨rfl, v1, rfl, hv1, hp2⟩
  show qr_W (qe L xs vb) (d + 1) qx_e160 _ (5, _, [.int (qz v1)], qw σ α κ ρ, 0, 0)
  refine qr_if_eq 11 8 rfl rfl rfl (qrg hv1 (by decide) (by decide)) (fun h3 => ?_) (fun h3 => ?_)
  · skip
    refine qr_aload_n 12 rfl rfl rfl ?_
    refine qr_iload_n 13 rfl rfl rfl ?_
    refine qr_callN 16 rfl rfl rfl (sf_47_44x (d := d + 0) hI r1) ?_
    rintro _ _ ⟨rfl, v4, rfl, hv4, hp5⟩
    show qr_W (qe L xs vb) (d + 1) qx_e160 _ (16, _, [.int (qz v4)], qw σ α κ ρ, 0, 0)
    refine qr_if_ne 22 19 rfl rfl rfl (qrg hv4 (by decide) (by decide)) (fun h6 => ?_) (fun h6 => ?_)
    · skip
      refine qr_iload_n 23 rfl rfl rfl ?_
      refine qr_if_lt 36 26 rfl rfl rfl r2 (fun h7 => ?_) (fun h7 => ?_)
      · skip
        refine qr_bipush 38 rfl (by decide) rfl ?_
        refine qr_goto 42 rfl rfl ?_
        refine qr_retI rfl rfl (by decide) (by decide) ?_
        exact ⟨rfl, (-13), rfl, (by decide), by omega⟩
      · skip
        refine qr_iload_n 27 rfl rfl rfl ?_
        refine qr_aload_n 28 rfl rfl rfl ?_
        refine qr_get 31 rfl rfl rfl (by decide) rfl ?_
        refine qr_iload_n 32 rfl rfl rfl ?_
        refine qr_iaload 33 rfl rfl (qrgi r1 (by decide) (by decide)) (by decide) rfl ?_
        refine qr_topI (fun v8 hv8 => ?_)
        have hs9 : 0 ≤ v8 ∧ v8 ≤ 60 := by rw [hv8]; exact hI.2.1 46 _ (show _ < 6 from qrgt r1 (by decide) (by decide))
        refine qr_icmp_lt 41 36 rfl rfl rfl r2 (qrg hs9 (by decide) (by decide)) (fun h10 => ?_) (fun h10 => ?_)
        · skip
          refine qr_iconst 42 rfl rfl ?_
          refine qr_retI rfl rfl (by decide) (by decide) ?_
          exact ⟨rfl, 0, rfl, (by decide), by omega⟩
        · skip
          refine qr_bipush 38 rfl (by decide) rfl ?_
          refine qr_goto 42 rfl rfl ?_
          refine qr_retI rfl rfl (by decide) (by decide) ?_
          exact ⟨rfl, (-13), rfl, (by decide), by omega⟩
    · skip
      refine qr_bipush 21 rfl (by decide) rfl ?_
      refine qr_retI rfl rfl (by decide) (by decide) ?_
      exact ⟨rfl, (-12), rfl, (by decide), by omega⟩
  · skip
    refine qr_bipush 10 rfl (by decide) rfl ?_
    refine qr_retI rfl rfl (by decide) (by decide) ?_
    exact ⟨rfl, (-11), rfl, (by decide), by omega⟩

set_option maxHeartbeats 4000000 in
set_option maxRecDepth 20000 in
/-- OneRoof$Pegs.narrowed -/
theorem sf_162x {L : Nat} {xs : Nat → Int} {vb : Bool} {d : Nat} {σ α : Nat → Nat → Int} {κ : Nat → Option Nat} {ρ : Nat} {x0 : Int} {x1 : Int} (hI : qI σ α κ ρ) (r0 : 0 ≤ x0 ∧ x0 ≤ 4) (r1 : (-9223372036854775808) ≤ x1 ∧ x1 ≤ 9223372036854775807) : qm_T (qe L xs vb) (d + 1) 162 [.int (qz x0), .long (ql x1)] (qw σ α κ ρ) (fun r w' => w' = qw σ α κ ρ ∧ ∃ v : Int, r = some (.long (ql v)) ∧ ((-9223372036854775808) ≤ v ∧ v ≤ 9223372036854775807) ∧ v = qnar x0 x1) := by
  refine qr_start (d := d + 0) qv_e162 (Nat.le_of_ble_eq_true rfl) ?_
  show qr_W (qe L xs vb) (d + 0) qx_e162 _ (0, [(0, .int (qz x0)), (1, .long (ql x1))], [], _, 0, 0)
  refine qr_iload_n 1 rfl rfl rfl ?_
  have h1 : x0 = 0 ∨ x0 = 1 ∨ x0 = 2 ∨ x0 = 3 ∨ (x0 < 0 ∨ 3 < x0) := by omega
  rcases h1 with h1 | h1 | h1 | h1 | h1
  · skip
    refine qr_tabIn 32 rfl (qrg r0 (by decide) (by decide)) (by rw [h1]; decide) (by rw [h1]; rfl) rfl ?_
    refine qr_lload_n 33 rfl rfl rfl ?_
    refine qr_l2i 34 rfl rfl ?_
    refine qy_canE (fun v3 hv3 hev3 => ?_)
    refine qr_i2b 35 rfl rfl ?_
    refine qy_canE (fun v4 hv4 hev4 => ?_)
    refine qr_i2l 36 rfl hv4 rfl ?_
    refine qr_retL rfl rfl (by decide) (by decide) ?_
    exact ⟨rfl, v4, rfl, (qrg hv4 (by decide) (by decide)), (by unfold qnar; rw [if_pos (by omega)]; exact qna_b hev3 hev4 (by omega))⟩
  · skip
    refine qr_tabIn 37 rfl (qrg r0 (by decide) (by decide)) (by rw [h1]; decide) (by rw [h1]; rfl) rfl ?_
    refine qr_lload_n 38 rfl rfl rfl ?_
    refine qr_l2i 39 rfl rfl ?_
    refine qy_canE (fun v5 hv5 hev5 => ?_)
    refine qr_i2s 40 rfl rfl ?_
    refine qy_canE (fun v6 hv6 hev6 => ?_)
    refine qr_i2l 41 rfl hv6 rfl ?_
    refine qr_retL rfl rfl (by decide) (by decide) ?_
    exact ⟨rfl, v6, rfl, (qrg hv6 (by decide) (by decide)), (by unfold qnar; rw [if_neg (by omega), if_pos (by omega)]; exact qna_s hev5 hev6 (by omega))⟩
  · skip
    refine qr_tabIn 42 rfl (qrg r0 (by decide) (by decide)) (by rw [h1]; decide) (by rw [h1]; rfl) rfl ?_
    refine qr_lload_n 43 rfl rfl rfl ?_
    refine qr_l2i 44 rfl rfl ?_
    refine qy_canE (fun v7 hv7 hev7 => ?_)
    refine qr_i2l 45 rfl hv7 rfl ?_
    refine qr_retL rfl rfl (by decide) (by decide) ?_
    exact ⟨rfl, v7, rfl, (qrg hv7 (by decide) (by decide)), (by unfold qnar; rw [if_neg (by omega), if_neg (by omega), if_pos (by omega)]; exact qna_i hev7 (by omega))⟩
  · skip
    refine qr_tabIn 46 rfl (qrg r0 (by decide) (by decide)) (by rw [h1]; decide) (by rw [h1]; rfl) rfl ?_
    refine qr_lload_n 47 rfl rfl rfl ?_
    refine qr_retL rfl rfl (by decide) (by decide) ?_
    exact ⟨rfl, x1, rfl, r1, (by unfold qnar; rw [if_neg (by omega), if_neg (by omega), if_neg (by omega), if_pos (by omega)])⟩
  · skip
    refine qr_tabOut 48 rfl (qrg r0 (by decide) (by decide)) (by omega) rfl ?_
    refine qr_lload_n 49 rfl rfl rfl ?_
    refine qr_lconst 50 rfl rfl ?_
    refine qy_vl 0 rfl ?_
    refine qr_lc_eq 58 54 rfl rfl rfl rfl r1 (by decide) (fun h8 => ?_) (fun h8 => ?_)
    · skip
      refine qr_lconst 59 rfl rfl ?_
      refine qy_vl 0 rfl ?_
      refine qr_retL rfl rfl (by decide) (by decide) ?_
      exact ⟨rfl, 0, rfl, (by decide), (by unfold qnar; rw [if_neg (by omega), if_neg (by omega), if_neg (by omega), if_neg (by omega)]; first | (rw [if_pos (by omega)]) | (rw [if_neg (by omega)]))⟩
    · skip
      refine qr_lconst 55 rfl rfl ?_
      refine qy_vl 1 rfl ?_
      refine qr_goto 59 rfl rfl ?_
      refine qr_retL rfl rfl (by decide) (by decide) ?_
      exact ⟨rfl, 1, rfl, (by decide), (by unfold qnar; rw [if_neg (by omega), if_neg (by omega), if_neg (by omega), if_neg (by omega)]; first | (rw [if_pos (by omega)]) | (rw [if_neg (by omega)]))⟩

set_option maxHeartbeats 4000000 in
set_option maxRecDepth 20000 in
/-- OneRoof$Pegs.store -/
theorem sf_161_44x {L : Nat} {xs : Nat → Int} {vb : Bool} {d : Nat} {σ α : Nat → Nat → Int} {κ : Nat → Option Nat} {ρ : Nat} {x1 : Int} {x2 : Int} {x3 : Int} (hI : qI σ α κ ρ) (r1 : 0 ≤ x1 ∧ x1 ≤ 5) (r2 : 0 ≤ x2 ∧ x2 ≤ 59) (r3 : (-9223372036854775808) ≤ x3 ∧ x3 ≤ 9223372036854775807) (p0 : α 45 (x1 : Int).toNat ≤ 4) : qm_T (qe L xs vb) (d + 2) 161 [.ref 44, .int (qz x1), .int (qz x2), .long (ql x3)] (qw σ α κ ρ) (fun r w' => ∃ α', w' = qw σ α' κ ρ ∧ qI σ α' κ ρ ∧ qFr [] [48] σ α σ α' ∧ r = none ∧ α' 48 = qzu (α 48) (x1 * 60 + x2 : Int).toNat (qnar (α 45 (x1 : Int).toNat) x3)) := by
  refine qr_start (d := d + 1) qv_e161 (Nat.le_of_ble_eq_true rfl) ?_
  show qr_W (qe L xs vb) (d + 1) qx_e161 _ (0, [(0, .ref 44), (1, .int (qz x1)), (2, .int (qz x2)), (3, .long (ql x3))], [], _, 0, 0)
  have hF0 := qFr_rf [] [48] σ α
  refine qr_aload_n 1 rfl rfl rfl ?_
  refine qr_get 4 rfl rfl rfl (by decide) rfl ?_
  refine qr_iload_n 5 rfl rfl rfl ?_
  refine qr_bipush 7 rfl (by decide) rfl ?_
  refine qr_imul 8 rfl rfl ?_
  refine qr_iload_n 9 rfl rfl rfl ?_
  refine qr_iadd 10 rfl rfl ?_
  refine qr_aload_n 11 rfl rfl rfl ?_
  refine qr_get 14 rfl rfl rfl (by decide) rfl ?_
  refine qr_iload_n 15 rfl rfl rfl ?_
  refine qr_iaload 16 rfl rfl (qrgi r1 (by decide) (by decide)) (by decide) rfl ?_
  refine qr_topI (fun v1 hv1 => ?_)
  have hs2 : 0 ≤ v1 ∧ v1 ≤ 6 := by rw [hv1]; exact hI.2.1 45 _ (show _ < 6 from qrgt r1 (by decide) (by decide))
  refine qr_lload_n 17 rfl rfl rfl ?_
  refine qr_callN 20 rfl rfl rfl (sf_162x (d := d + 0) hI (by omega) r3) ?_
  rintro _ _ ⟨rfl, v3, rfl, hv3, hp4⟩
  show qr_W (qe L xs vb) (d + 1) qx_e161 _ (20, _, [.long (ql v3), .int (qz ((x1 * 60) + x2)), .ref 48], qw σ α κ ρ, 0, 0)
  refine qr_lastore 21 rfl (by decide) rfl (by omega) (by decide) rfl ?_
  refine qy_wA (qw_r α 48 (qzu (α 48) (((x1 * 60) + x2) : Int).toNat v3)) rfl (fun α5 e6 => ?_)
  have hI7 : qI σ α5 κ ρ := by rw [e6]; exact qI_r hI 48 _ rfl (show (-9223372036854775808) ≤ v3 ∧ v3 ≤ 9223372036854775807 by omega)
  have hF8 : qFr [] [48] σ α σ α5 := by rw [e6]; exact qFr_r hF0 48 _ (by decide)
  refine qr_retV rfl rfl (by decide) (by decide) ?_
  exact ⟨_, rfl, hI7, hF8, rfl, (((congrFun e6 48).trans (qw_r_eq.trans (congrArg (fun f => qzu f (((x1 * 60) + x2) : Int).toNat v3) rfl))).trans (by rw [hp4, hv1]))⟩

set_option maxHeartbeats 4000000 in
set_option maxRecDepth 20000 in
/-- OneRoof.put -/
theorem sf_159_16x {L : Nat} {xs : Nat → Int} {vb : Bool} {d : Nat} {σ α : Nat → Nat → Int} {κ : Nat → Option Nat} {ρ : Nat} {x1 : Int} {x2 : Int} {x3 : Int} (hI : qI σ α κ ρ) (r1 : (-2147483648) ≤ x1 ∧ x1 ≤ 2147483647) (r2 : (-2147483648) ≤ x2 ∧ x2 ≤ 2147483647) (r3 : (-9223372036854775808) ≤ x3 ∧ x3 ≤ 9223372036854775807) : qm_T (qe L xs vb) (d + 3) 159 [.ref 16, .int (qz x1), .int (qz x2), .long (ql x3)] (qw σ α κ ρ) (fun r w' => ∃ α', w' = qw σ α' κ ρ ∧ qI σ α' κ ρ ∧ qFr [] [48] σ α σ α' ∧ ∃ v : Int, r = some (.int (qz v)) ∧ ((-2147483648) ≤ v ∧ v ≤ 2147483647) ∧ (((v = -1 ∧ ¬ (0 ≤ x1 ∧ x1 ≤ 5)) ∧ α' 48 = α 48) ∨ (((0 ≤ x1 ∧ x1 ≤ 5) ∧ ¬ v = 0 ∧ ((v = -11 ∧ α 45 (x1 : Int).toNat = 6) ∨ (v = -12 ∧ α 45 (x1 : Int).toNat = 5) ∨ (v = -13 ∧ α 45 (x1 : Int).toNat ≤ 4 ∧ ¬ (0 ≤ x2 ∧ x2 < α 46 (x1 : Int).toNat)) ∨ (v = 0 ∧ α 45 (x1 : Int).toNat ≤ 4 ∧ 0 ≤ x2 ∧ x2 < α 46 (x1 : Int).toNat))) ∧ α' 48 = α 48) ∨ ((v = 1 ∧ (0 ≤ x1 ∧ x1 ≤ 5) ∧ α 45 (x1 : Int).toNat ≤ 4 ∧ 0 ≤ x2 ∧ x2 < α 46 (x1 : Int).toNat) ∧ α' 48 = qzu (α 48) (x1 * 60 + x2 : Int).toNat (qnar (α 45 (x1 : Int).toNat) x3)))) := by
  refine qr_start (d := d + 2) qv_e159 (Nat.le_of_ble_eq_true rfl) ?_
  show qr_W (qe L xs vb) (d + 2) qx_e159 _ (0, [(0, .ref 16), (1, .int (qz x1)), (2, .int (qz x2)), (3, .long (ql x3))], [], _, 0, 0)
  have hF0 := qFr_rf [] [48] σ α
  have qx1_45 : 0 ≤ x1 ∧ x1 ≤ 5 → 0 ≤ α 45 (x1 : Int).toNat ∧ α 45 (x1 : Int).toNat ≤ 6 := fun h => hI.2.1 45 _ (show (x1 : Int).toNat < 6 by omega)
  have qx1_46 : 0 ≤ x1 ∧ x1 ≤ 5 → 0 ≤ α 46 (x1 : Int).toNat ∧ α 46 (x1 : Int).toNat ≤ 60 := fun h => hI.2.1 46 _ (show (x1 : Int).toNat < 6 by omega)
  refine qr_aload_n 1 rfl rfl rfl ?_
  refine qr_get 4 rfl rfl rfl (by decide) rfl ?_
  refine qr_iload_n 5 rfl rfl rfl ?_
  refine qr_callN 8 rfl rfl rfl (sf_44_44 (d := d + 1) hI r1) ?_
  rintro _ _ ⟨rfl, v1, rfl, hv1, hp2⟩
  show qr_W (qe L xs vb) (d + 2) qx_e159 _ (8, _, [.int (qz v1)], qw σ α κ ρ, 0, 0)
  refine qr_if_ne 13 11 rfl rfl rfl (qrg hv1 (by decide) (by decide)) (fun h3 => ?_) (fun h3 => ?_)
  · skip
    refine qr_aload_n 14 rfl rfl rfl ?_
    refine qr_get 17 rfl rfl rfl (by decide) rfl ?_
    refine qr_iload_n 18 rfl rfl rfl ?_
    refine qr_iload_n 19 rfl rfl rfl ?_
    refine qr_callN 22 rfl rfl rfl (sf_160_44x (d := d + 0) hI (by omega) r2) ?_
    rintro _ _ ⟨rfl, v4, rfl, hv4, hp5⟩
    show qr_W (qe L xs vb) (d + 2) qx_e159 _ (22, _, [.int (qz v4)], qw σ α κ ρ, 0, 0)
    refine qr_istore _ 24 rfl (by decide) rfl rfl ?_
    refine qr_iload 26 rfl rfl rfl ?_
    refine qr_if_eq 32 29 rfl rfl rfl (qrg hv4 (by decide) (by decide)) (fun h6 => ?_) (fun h6 => ?_)
    · skip
      refine qr_aload_n 33 rfl rfl rfl ?_
      refine qr_get 36 rfl rfl rfl (by decide) rfl ?_
      refine qr_iload_n 37 rfl rfl rfl ?_
      refine qr_iload_n 38 rfl rfl rfl ?_
      refine qr_lload_n 39 rfl rfl rfl ?_
      refine qr_callN 42 rfl rfl rfl (sf_161_44x (d := d + 0) hI (by omega) (by omega) r3 (by omega)) ?_
      rintro _ _ ⟨α8, rfl, hI9, hG10, rfl, hx7⟩
      have hF11 : qFr [] [48] σ α σ α8 := qFr_t hF0 hG10 (by decide) (by decide)
      show qr_W (qe L xs vb) (d + 2) qx_e159 _ (42, _, [], qw σ α8 κ ρ, 0, 0)
      refine qr_iconst 43 rfl rfl ?_
      refine qr_retI rfl rfl (by decide) (by decide) ?_
      exact ⟨_, rfl, hI9, hF11, 1, rfl, (by decide), (Or.inr (Or.inr (⟨by omega, (hx7.trans (congrArg (fun f => qzu (f) (x1 * 60 + x2 : Int).toNat (qnar (α 45 (x1 : Int).toNat) x3)) rfl))⟩)))⟩
    · skip
      refine qr_iload 31 rfl rfl rfl ?_
      refine qr_retI rfl rfl (by decide) (by decide) ?_
      exact ⟨_, rfl, hI, hF0, v4, rfl, (qrg hv4 (by decide) (by decide)), (Or.inr (Or.inl ⟨by omega, rfl⟩))⟩
  · skip
    refine qr_iconst 12 rfl rfl ?_
    refine qr_retI rfl rfl (by decide) (by decide) ?_
    exact ⟨_, rfl, hI, hF0, (-1), rfl, (by decide), (Or.inl ⟨by omega, rfl⟩)⟩

set_option maxHeartbeats 4000000 in
set_option maxRecDepth 20000 in
/-- OneRoof$Pegs.at -/
theorem sf_48_44x {L : Nat} {xs : Nat → Int} {vb : Bool} {d : Nat} {σ α : Nat → Nat → Int} {κ : Nat → Option Nat} {ρ : Nat} {x1 : Int} {x2 : Int} (hI : qI σ α κ ρ) (r1 : 0 ≤ x1 ∧ x1 ≤ 5) (r2 : 0 ≤ x2 ∧ x2 ≤ 59) : qm_T (qe L xs vb) (d + 1) 48 [.ref 44, .int (qz x1), .int (qz x2)] (qw σ α κ ρ) (fun r w' => w' = qw σ α κ ρ ∧ ∃ v : Int, r = some (.long (ql v)) ∧ ((-9223372036854775808) ≤ v ∧ v ≤ 9223372036854775807) ∧ v = α 48 (x1 * 60 + x2 : Int).toNat) := by
  refine qr_start (d := d + 0) qv_e48 (Nat.le_of_ble_eq_true rfl) ?_
  show qr_W (qe L xs vb) (d + 0) qx_e48 _ (0, [(0, .ref 44), (1, .int (qz x1)), (2, .int (qz x2))], [], _, 0, 0)
  refine qr_aload_n 1 rfl rfl rfl ?_
  refine qr_get 4 rfl rfl rfl (by decide) rfl ?_
  refine qr_iload_n 5 rfl rfl rfl ?_
  refine qr_bipush 7 rfl (by decide) rfl ?_
  refine qr_imul 8 rfl rfl ?_
  refine qr_iload_n 9 rfl rfl rfl ?_
  refine qr_iadd 10 rfl rfl ?_
  refine qr_laload 11 rfl (by decide) rfl (by omega) (by decide) rfl ?_
  refine qr_topL (fun v1 hv1 => ?_)
  have hs2 : (-9223372036854775808) ≤ v1 ∧ v1 ≤ 9223372036854775807 := by rw [hv1]; exact hI.2.1 48 _ (show _ < 360 by omega)
  refine qr_retL rfl rfl (by decide) (by decide) ?_
  exact ⟨rfl, v1, rfl, hs2, by omega⟩

set_option maxHeartbeats 4000000 in
set_option maxRecDepth 20000 in
/-- OneRoof.element -/
theorem sf_163_16x {L : Nat} {xs : Nat → Int} {vb : Bool} {d : Nat} {σ α : Nat → Nat → Int} {κ : Nat → Option Nat} {ρ : Nat} {x1 : Int} {x2 : Int} (hI : qI σ α κ ρ) (r1 : (-2147483648) ≤ x1 ∧ x1 ≤ 2147483647) (r2 : (-2147483648) ≤ x2 ∧ x2 ≤ 2147483647) : qm_T (qe L xs vb) (d + 3) 163 [.ref 16, .int (qz x1), .int (qz x2)] (qw σ α κ ρ) (fun r w' => w' = qw σ α κ ρ ∧ ∃ v : Int, r = some (.long (ql v)) ∧ ((-9223372036854775808) ≤ v ∧ v ≤ 9223372036854775807) ∧ ((v = -9223372036854775808 ∧ ¬ (0 ≤ x1 ∧ x1 ≤ 5 ∧ α 45 (x1 : Int).toNat ≤ 4 ∧ 0 ≤ x2 ∧ x2 < α 46 (x1 : Int).toNat)) ∨ ((0 ≤ x1 ∧ x1 ≤ 5 ∧ α 45 (x1 : Int).toNat ≤ 4 ∧ 0 ≤ x2 ∧ x2 < α 46 (x1 : Int).toNat) ∧ v = α 48 (x1 * 60 + x2 : Int).toNat))) := by
  refine qr_start (d := d + 2) qv_e163 (Nat.le_of_ble_eq_true rfl) ?_
  show qr_W (qe L xs vb) (d + 2) qx_e163 _ (0, [(0, .ref 16), (1, .int (qz x1)), (2, .int (qz x2))], [], _, 0, 0)
  have qx1_45 : 0 ≤ x1 ∧ x1 ≤ 5 → 0 ≤ α 45 (x1 : Int).toNat ∧ α 45 (x1 : Int).toNat ≤ 6 := fun h => hI.2.1 45 _ (show (x1 : Int).toNat < 6 by omega)
  have qx1_46 : 0 ≤ x1 ∧ x1 ≤ 5 → 0 ≤ α 46 (x1 : Int).toNat ∧ α 46 (x1 : Int).toNat ≤ 60 := fun h => hI.2.1 46 _ (show (x1 : Int).toNat < 6 by omega)
  refine qr_aload_n 1 rfl rfl rfl ?_
  refine qr_get 4 rfl rfl rfl (by decide) rfl ?_
  refine qr_iload_n 5 rfl rfl rfl ?_
  refine qr_callN 8 rfl rfl rfl (sf_44_44 (d := d + 1) hI r1) ?_
  rintro _ _ ⟨rfl, v1, rfl, hv1, hp2⟩
  show qr_W (qe L xs vb) (d + 2) qx_e163 _ (8, _, [.int (qz v1)], qw σ α κ ρ, 0, 0)
  refine qr_if_eq 23 11 rfl rfl rfl (qrg hv1 (by decide) (by decide)) (fun h3 => ?_) (fun h3 => ?_)
  · skip
    refine qr_ldc2 (-9223372036854775808) 26 rfl (by decide) rfl ?_
    refine qr_retL rfl rfl (by decide) (by decide) ?_
    exact ⟨rfl, (-9223372036854775808), rfl, (by decide), by omega⟩
  · skip
    refine qr_aload_n 12 rfl rfl rfl ?_
    refine qr_get 15 rfl rfl rfl (by decide) rfl ?_
    refine qr_iload_n 16 rfl rfl rfl ?_
    refine qr_iload_n 17 rfl rfl rfl ?_
    refine qr_callN 20 rfl rfl rfl (sf_160_44x (d := d + 0) hI (by omega) r2) ?_
    rintro _ _ ⟨rfl, v4, rfl, hv4, hp5⟩
    show qr_W (qe L xs vb) (d + 2) qx_e163 _ (20, _, [.int (qz v4)], qw σ α κ ρ, 0, 0)
    refine qr_if_eq 27 23 rfl rfl rfl (qrg hv4 (by decide) (by decide)) (fun h6 => ?_) (fun h6 => ?_)
    · skip
      refine qr_aload_n 28 rfl rfl rfl ?_
      refine qr_get 31 rfl rfl rfl (by decide) rfl ?_
      refine qr_iload_n 32 rfl rfl rfl ?_
      refine qr_iload_n 33 rfl rfl rfl ?_
      refine qr_callN 36 rfl rfl rfl (sf_48_44x (d := d + 1) hI (by omega) (by omega)) ?_
      rintro _ _ ⟨rfl, v7, rfl, hv7, hp8⟩
      show qr_W (qe L xs vb) (d + 2) qx_e163 _ (36, _, [.long (ql v7)], qw σ α κ ρ, 0, 0)
      refine qr_retL rfl rfl (by decide) (by decide) ?_
      exact ⟨rfl, v7, rfl, hv7, by omega⟩
    · skip
      refine qr_ldc2 (-9223372036854775808) 26 rfl (by decide) rfl ?_
      refine qr_retL rfl rfl (by decide) (by decide) ?_
      exact ⟨rfl, (-9223372036854775808), rfl, (by decide), by omega⟩

set_option maxHeartbeats 4000000 in
set_option maxRecDepth 20000 in
/-- OneRoof$Pegs.hasRun -/
theorem sf_165_44x {L : Nat} {xs : Nat → Int} {vb : Bool} {d : Nat} {σ α : Nat → Nat → Int} {κ : Nat → Option Nat} {ρ : Nat} {x1 : Int} {x2 : Int} {x3 : Int} (hI : qI σ α κ ρ) (r1 : 0 ≤ x1 ∧ x1 ≤ 5) (r2 : (-2147483648) ≤ x2 ∧ x2 ≤ 2147483647) (r3 : (-2147483648) ≤ x3 ∧ x3 ≤ 2147483647) : qm_T (qe L xs vb) (d + 1) 165 [.ref 44, .int (qz x1), .int (qz x2), .int (qz x3)] (qw σ α κ ρ) (fun r w' => w' = qw σ α κ ρ ∧ ∃ v : Int, r = some (.int (qz v)) ∧ (0 ≤ v ∧ v ≤ 1) ∧ ((v = 1 ∧ (0 ≤ x2 ∧ 0 ≤ x3 ∧ x3 ≤ α 46 (x1 : Int).toNat ∧ x2 ≤ α 46 (x1 : Int).toNat - x3)) ∨ (v = 0 ∧ ¬ ((0 ≤ x2 ∧ 0 ≤ x3 ∧ x3 ≤ α 46 (x1 : Int).toNat ∧ x2 ≤ α 46 (x1 : Int).toNat - x3))))) := by
  refine qr_start (d := d + 0) qv_e165 (Nat.le_of_ble_eq_true rfl) ?_
  show qr_W (qe L xs vb) (d + 0) qx_e165 _ (0, [(0, .ref 44), (1, .int (qz x1)), (2, .int (qz x2)), (3, .int (qz x3))], [], _, 0, 0)
  have qx1_45 : 0 ≤ x1 ∧ x1 ≤ 5 → 0 ≤ α 45 (x1 : Int).toNat ∧ α 45 (x1 : Int).toNat ≤ 6 := fun h => hI.2.1 45 _ (show (x1 : Int).toNat < 6 by omega)
  have qx1_46 : 0 ≤ x1 ∧ x1 ≤ 5 → 0 ≤ α 46 (x1 : Int).toNat ∧ α 46 (x1 : Int).toNat ≤ 60 := fun h => hI.2.1 46 _ (show (x1 : Int).toNat < 6 by omega)
  refine qr_iload_n 1 rfl rfl rfl ?_
  refine qr_if_lt 34 4 rfl rfl rfl r2 (fun h1 => ?_) (fun h1 => ?_)
  · skip
    refine qr_iconst 35 rfl rfl ?_
    refine qr_retZ rfl rfl (Or.inl rfl) (by decide) (by decide) ?_
    exact ⟨rfl, 0, rfl, (by decide), by omega⟩
  · skip
    refine qr_iload_n 5 rfl rfl rfl ?_
    refine qr_if_lt 34 8 rfl rfl rfl r3 (fun h2 => ?_) (fun h2 => ?_)
    · skip
      refine qr_iconst 35 rfl rfl ?_
      refine qr_retZ rfl rfl (Or.inl rfl) (by decide) (by decide) ?_
      exact ⟨rfl, 0, rfl, (by decide), by omega⟩
    · skip
      refine qr_iload_n 9 rfl rfl rfl ?_
      refine qr_aload_n 10 rfl rfl rfl ?_
      refine qr_get 13 rfl rfl rfl (by decide) rfl ?_
      refine qr_iload_n 14 rfl rfl rfl ?_
      refine qr_iaload 15 rfl rfl (qrgi r1 (by decide) (by decide)) (by decide) rfl ?_
      refine qr_topI (fun v3 hv3 => ?_)
      have hs4 : 0 ≤ v3 ∧ v3 ≤ 60 := by rw [hv3]; exact hI.2.1 46 _ (show _ < 6 from qrgt r1 (by decide) (by decide))
      refine qr_icmp_gt 34 18 rfl rfl rfl r3 (qrg hs4 (by decide) (by decide)) (fun h5 => ?_) (fun h5 => ?_)
      · skip
        refine qr_iconst 35 rfl rfl ?_
        refine qr_retZ rfl rfl (Or.inl rfl) (by decide) (by decide) ?_
        exact ⟨rfl, 0, rfl, (by decide), by omega⟩
      · skip
        refine qr_iload_n 19 rfl rfl rfl ?_
        refine qr_aload_n 20 rfl rfl rfl ?_
        refine qr_get 23 rfl rfl rfl (by decide) rfl ?_
        refine qr_iload_n 24 rfl rfl rfl ?_
        refine qr_iaload 25 rfl rfl (qrgi r1 (by decide) (by decide)) (by decide) rfl ?_
        refine qr_topI (fun v6 hv6 => ?_)
        have hs7 : 0 ≤ v6 ∧ v6 ≤ 60 := by rw [hv6]; exact hI.2.1 46 _ (show _ < 6 from qrgt r1 (by decide) (by decide))
        refine qr_iload_n 26 rfl rfl rfl ?_
        refine qr_isub 27 rfl rfl ?_
        refine qr_icmp_gt 34 30 rfl rfl rfl r2 (by omega) (fun h8 => ?_) (fun h8 => ?_)
        · skip
          refine qr_iconst 35 rfl rfl ?_
          refine qr_retZ rfl rfl (Or.inl rfl) (by decide) (by decide) ?_
          exact ⟨rfl, 0, rfl, (by decide), by omega⟩
        · skip
          refine qr_iconst 31 rfl rfl ?_
          refine qr_goto 35 rfl rfl ?_
          refine qr_retZ rfl rfl (Or.inr rfl) (by decide) (by decide) ?_
          exact ⟨rfl, 1, rfl, (by decide), by omega⟩

set_option maxHeartbeats 4000000 in
set_option maxRecDepth 20000 in
/-- OneRoof$Pegs.copyRun -/
theorem sf_166_44x {L : Nat} {xs : Nat → Int} {vb : Bool} {d : Nat} {σ α : Nat → Nat → Int} {κ : Nat → Option Nat} {ρ : Nat} {x1 : Int} {x2 : Int} {x3 : Int} {x4 : Int} {x5 : Int} (hI : qI σ α κ ρ) (r1 : 0 ≤ x1 ∧ x1 ≤ 5) (r2 : 0 ≤ x2 ∧ x2 ≤ 60) (r3 : 0 ≤ x3 ∧ x3 ≤ 5) (r4 : 0 ≤ x4 ∧ x4 ≤ 60) (r5 : 0 ≤ x5 ∧ x5 ≤ 60) (p0 : x2 + x5 ≤ 60) (p1 : x4 + x5 ≤ 60) : qm_T (qe L xs vb) (d + 1) 166 [.ref 44, .int (qz x1), .int (qz x2), .int (qz x3), .int (qz x4), .int (qz x5)] (qw σ α κ ρ) (fun r w' => ∃ α', w' = qw σ α' κ ρ ∧ qI σ α' κ ρ ∧ qFr [] [48] σ α σ α' ∧ r = none ∧ α' 48 = va_cpy (α 48) (α 48) (x1 * 60 + x2 : Int).toNat (x3 * 60 + x4 : Int).toNat (x5 : Int).toNat) := by
  refine qr_start (d := d + 0) qv_e166 (Nat.le_of_ble_eq_true rfl) ?_
  show qr_W (qe L xs vb) (d + 0) qx_e166 _ (0, [(0, .ref 44), (1, .int (qz x1)), (2, .int (qz x2)), (3, .int (qz x3)), (4, .int (qz x4)), (5, .int (qz x5))], [], _, 0, 0)
  have hF0 := qFr_rf [] [48] σ α
  refine qr_aload_n 1 rfl rfl rfl ?_
  refine qr_get 4 rfl rfl rfl (by decide) rfl ?_
  refine qr_iload_n 5 rfl rfl rfl ?_
  refine qr_bipush 7 rfl (by decide) rfl ?_
  refine qr_imul 8 rfl rfl ?_
  refine qr_iload_n 9 rfl rfl rfl ?_
  refine qr_iadd 10 rfl rfl ?_
  refine qr_aload_n 11 rfl rfl rfl ?_
  refine qr_get 14 rfl rfl rfl (by decide) rfl ?_
  refine qr_iload_n 15 rfl rfl rfl ?_
  refine qr_bipush 17 rfl (by decide) rfl ?_
  refine qr_imul 18 rfl rfl ?_
  refine qr_iload 20 rfl rfl rfl ?_
  refine qr_iadd 21 rfl rfl ?_
  refine qr_iload 23 rfl rfl rfl ?_
  refine qy_copyl 26 rfl (by decide) (by decide) rfl rfl (by omega) (by omega) (by omega) (by omega) (by omega) (by decide) (by decide) rfl ?_
  refine qy_wA (qw_r α 48 (va_cpy (α 48) (α 48) (((x1 * 60) + x2) : Int).toNat (((x3 * 60) + x4) : Int).toNat (x5 : Int).toNat)) rfl (fun α1 e2 => ?_)
  have hI3 : qI σ α1 κ ρ := by rw [e2]; exact qI_cpy hI 48 48 rfl rfl (show _ ≤ 360 by omega)
  have hF4 : qFr [] [48] σ α σ α1 := by rw [e2]; exact qFr_r hF0 48 _ (by decide)
  refine qr_retV rfl rfl (by decide) (by decide) ?_
  exact ⟨_, rfl, hI3, hF4, rfl, ((congrFun e2 48).trans qw_r_eq)⟩

set_option maxHeartbeats 4000000 in
set_option maxRecDepth 20000 in
/-- OneRoof.shift -/
theorem sf_164_16x {L : Nat} {xs : Nat → Int} {vb : Bool} {d : Nat} {σ α : Nat → Nat → Int} {κ : Nat → Option Nat} {ρ : Nat} {x1 : Int} {x2 : Int} {x3 : Int} {x4 : Int} {x5 : Int} (hI : qI σ α κ ρ) (r1 : (-2147483648) ≤ x1 ∧ x1 ≤ 2147483647) (r2 : (-2147483648) ≤ x2 ∧ x2 ≤ 2147483647) (r3 : (-2147483648) ≤ x3 ∧ x3 ≤ 2147483647) (r4 : (-2147483648) ≤ x4 ∧ x4 ≤ 2147483647) (r5 : (-2147483648) ≤ x5 ∧ x5 ≤ 2147483647) : qm_T (qe L xs vb) (d + 3) 164 [.ref 16, .int (qz x1), .int (qz x2), .int (qz x3), .int (qz x4), .int (qz x5)] (qw σ α κ ρ) (fun r w' => ∃ α', w' = qw σ α' κ ρ ∧ qI σ α' κ ρ ∧ qFr [] [48] σ α σ α' ∧ ∃ v : Int, r = some (.int (qz v)) ∧ ((-2147483648) ≤ v ∧ v ≤ 2147483647) ∧ (((v = -1 ∧ ¬ (0 ≤ x1 ∧ x1 ≤ 5 ∧ 0 ≤ x3 ∧ x3 ≤ 5)) ∧ α' 48 = α 48) ∨ ((v = -11 ∧ (0 ≤ x1 ∧ x1 ≤ 5 ∧ 0 ≤ x3 ∧ x3 ≤ 5) ∧ (α 45 (x1 : Int).toNat = 6 ∨ α 45 (x3 : Int).toNat = 6)) ∧ α' 48 = α 48) ∨ ((v = -12 ∧ (0 ≤ x1 ∧ x1 ≤ 5 ∧ 0 ≤ x3 ∧ x3 ≤ 5) ∧ ¬ (α 45 (x1 : Int).toNat = 6 ∨ α 45 (x3 : Int).toNat = 6) ∧ ¬ (α 45 (x1 : Int).toNat < 5 ∧ α 45 (x3 : Int).toNat = α 45 (x1 : Int).toNat)) ∧ α' 48 = α 48) ∨ ((v = -13 ∧ (0 ≤ x1 ∧ x1 ≤ 5 ∧ 0 ≤ x3 ∧ x3 ≤ 5) ∧ ¬ (α 45 (x1 : Int).toNat = 6 ∨ α 45 (x3 : Int).toNat = 6) ∧ (α 45 (x1 : Int).toNat < 5 ∧ α 45 (x3 : Int).toNat = α 45 (x1 : Int).toNat) ∧ ¬ (0 ≤ x2 ∧ 0 ≤ x5 ∧ x5 ≤ α 46 (x1 : Int).toNat ∧ x2 ≤ α 46 (x1 : Int).toNat - x5 ∧ 0 ≤ x4 ∧ x5 ≤ α 46 (x3 : Int).toNat ∧ x4 ≤ α 46 (x3 : Int).toNat - x5)) ∧ α' 48 = α 48) ∨ ((v = x5 ∧ (0 ≤ x1 ∧ x1 ≤ 5 ∧ 0 ≤ x3 ∧ x3 ≤ 5) ∧ ¬ (α 45 (x1 : Int).toNat = 6 ∨ α 45 (x3 : Int).toNat = 6) ∧ (α 45 (x1 : Int).toNat < 5 ∧ α 45 (x3 : Int).toNat = α 45 (x1 : Int).toNat) ∧ (0 ≤ x2 ∧ 0 ≤ x5 ∧ x5 ≤ α 46 (x1 : Int).toNat ∧ x2 ≤ α 46 (x1 : Int).toNat - x5 ∧ 0 ≤ x4 ∧ x5 ≤ α 46 (x3 : Int).toNat ∧ x4 ≤ α 46 (x3 : Int).toNat - x5)) ∧ α' 48 = va_cpy (α 48) (α 48) (x1 * 60 + x2 : Int).toNat (x3 * 60 + x4 : Int).toNat (x5 : Int).toNat))) := by
  refine qr_start (d := d + 2) qv_e164 (Nat.le_of_ble_eq_true rfl) ?_
  show qr_W (qe L xs vb) (d + 2) qx_e164 _ (0, [(0, .ref 16), (1, .int (qz x1)), (2, .int (qz x2)), (3, .int (qz x3)), (4, .int (qz x4)), (5, .int (qz x5))], [], _, 0, 0)
  have hF0 := qFr_rf [] [48] σ α
  have qx1_45 : 0 ≤ x1 ∧ x1 ≤ 5 → 0 ≤ α 45 (x1 : Int).toNat ∧ α 45 (x1 : Int).toNat ≤ 6 := fun h => hI.2.1 45 _ (show (x1 : Int).toNat < 6 by omega)
  have qx1_46 : 0 ≤ x1 ∧ x1 ≤ 5 → 0 ≤ α 46 (x1 : Int).toNat ∧ α 46 (x1 : Int).toNat ≤ 60 := fun h => hI.2.1 46 _ (show (x1 : Int).toNat < 6 by omega)
  have qx3_45 : 0 ≤ x3 ∧ x3 ≤ 5 → 0 ≤ α 45 (x3 : Int).toNat ∧ α 45 (x3 : Int).toNat ≤ 6 := fun h => hI.2.1 45 _ (show (x3 : Int).toNat < 6 by omega)
  have qx3_46 : 0 ≤ x3 ∧ x3 ≤ 5 → 0 ≤ α 46 (x3 : Int).toNat ∧ α 46 (x3 : Int).toNat ≤ 60 := fun h => hI.2.1 46 _ (show (x3 : Int).toNat < 6 by omega)
  refine qr_aload_n 1 rfl rfl rfl ?_
  refine qr_get 4 rfl rfl rfl (by decide) rfl ?_
  refine qr_iload_n 5 rfl rfl rfl ?_
  refine qr_callN 8 rfl rfl rfl (sf_44_44 (d := d + 1) hI r1) ?_
  rintro _ _ ⟨rfl, v1, rfl, hv1, hp2⟩
  show qr_W (qe L xs vb) (d + 2) qx_e164 _ (8, _, [.int (qz v1)], qw σ α κ ρ, 0, 0)
  refine qr_if_eq 22 11 rfl rfl rfl (qrg hv1 (by decide) (by decide)) (fun h3 => ?_) (fun h3 => ?_)
  · skip
    refine qr_iconst 23 rfl rfl ?_
    refine qr_retI rfl rfl (by decide) (by decide) ?_
    exact ⟨_, rfl, hI, hF0, (-1), rfl, (by decide), (Or.inl ⟨by omega, rfl⟩)⟩
  · skip
    refine qr_aload_n 12 rfl rfl rfl ?_
    refine qr_get 15 rfl rfl rfl (by decide) rfl ?_
    refine qr_iload_n 16 rfl rfl rfl ?_
    refine qr_callN 19 rfl rfl rfl (sf_44_44 (d := d + 1) hI r3) ?_
    rintro _ _ ⟨rfl, v4, rfl, hv4, hp5⟩
    show qr_W (qe L xs vb) (d + 2) qx_e164 _ (19, _, [.int (qz v4)], qw σ α κ ρ, 0, 0)
    refine qr_if_ne 24 22 rfl rfl rfl (qrg hv4 (by decide) (by decide)) (fun h6 => ?_) (fun h6 => ?_)
    · skip
      refine qr_aload_n 25 rfl rfl rfl ?_
      refine qr_get 28 rfl rfl rfl (by decide) rfl ?_
      refine qr_iload_n 29 rfl rfl rfl ?_
      refine qr_callN 32 rfl rfl rfl (sf_45_44x (d := d + 1) hI (by omega)) ?_
      rintro _ _ ⟨rfl, v7, rfl, hv7, hp8⟩
      show qr_W (qe L xs vb) (d + 2) qx_e164 _ (32, _, [.int (qz v7)], qw σ α κ ρ, 0, 0)
      refine qr_if_ne 46 35 rfl rfl rfl (qrg hv7 (by decide) (by decide)) (fun h9 => ?_) (fun h9 => ?_)
      · skip
        refine qr_bipush 48 rfl (by decide) rfl ?_
        refine qr_retI rfl rfl (by decide) (by decide) ?_
        exact ⟨_, rfl, hI, hF0, (-11), rfl, (by decide), (Or.inr (Or.inl ⟨by omega, rfl⟩))⟩
      · skip
        refine qr_aload_n 36 rfl rfl rfl ?_
        refine qr_get 39 rfl rfl rfl (by decide) rfl ?_
        refine qr_iload_n 40 rfl rfl rfl ?_
        refine qr_callN 43 rfl rfl rfl (sf_45_44x (d := d + 1) hI (by omega)) ?_
        rintro _ _ ⟨rfl, v10, rfl, hv10, hp11⟩
        show qr_W (qe L xs vb) (d + 2) qx_e164 _ (43, _, [.int (qz v10)], qw σ α κ ρ, 0, 0)
        refine qr_if_eq 49 46 rfl rfl rfl (qrg hv10 (by decide) (by decide)) (fun h12 => ?_) (fun h12 => ?_)
        · skip
          refine qr_aload_n 50 rfl rfl rfl ?_
          refine qr_get 53 rfl rfl rfl (by decide) rfl ?_
          refine qr_iload_n 54 rfl rfl rfl ?_
          refine qr_callN 57 rfl rfl rfl (sf_47_44x (d := d + 1) hI (by omega)) ?_
          rintro _ _ ⟨rfl, v13, rfl, hv13, hp14⟩
          show qr_W (qe L xs vb) (d + 2) qx_e164 _ (57, _, [.int (qz v13)], qw σ α κ ρ, 0, 0)
          refine qr_if_eq 80 60 rfl rfl rfl (qrg hv13 (by decide) (by decide)) (fun h15 => ?_) (fun h15 => ?_)
          · skip
            refine qr_bipush 82 rfl (by decide) rfl ?_
            refine qr_retI rfl rfl (by decide) (by decide) ?_
            exact ⟨_, rfl, hI, hF0, (-12), rfl, (by decide), (Or.inr (Or.inr (Or.inl ⟨by omega, rfl⟩)))⟩
          · skip
            refine qr_aload_n 61 rfl rfl rfl ?_
            refine qr_get 64 rfl rfl rfl (by decide) rfl ?_
            refine qr_iload_n 65 rfl rfl rfl ?_
            refine qr_aload_n 66 rfl rfl rfl ?_
            refine qr_get 69 rfl rfl rfl (by decide) rfl ?_
            refine qr_get 72 rfl rfl rfl (by decide) rfl ?_
            refine qr_iload_n 73 rfl rfl rfl ?_
            refine qr_iaload 74 rfl rfl (by omega) (by decide) rfl ?_
            refine qr_topI (fun v16 hv16 => ?_)
            have hs17 : 0 ≤ v16 ∧ v16 ≤ 6 := by rw [hv16]; exact hI.2.1 45 _ (show _ < 6 by omega)
            refine qr_callN 77 rfl rfl rfl (sf_46_44x (d := d + 0) hI (by omega) (qrg hs17 (by decide) (by decide))) ?_
            rintro _ _ ⟨rfl, v18, rfl, hv18, hp19⟩
            show qr_W (qe L xs vb) (d + 2) qx_e164 _ (77, _, [.int (qz v18)], qw σ α κ ρ, 0, 0)
            refine qr_if_ne 83 80 rfl rfl rfl (qrg hv18 (by decide) (by decide)) (fun h20 => ?_) (fun h20 => ?_)
            · skip
              refine qr_aload_n 84 rfl rfl rfl ?_
              refine qr_get 87 rfl rfl rfl (by decide) rfl ?_
              refine qr_iload_n 88 rfl rfl rfl ?_
              refine qr_iload_n 89 rfl rfl rfl ?_
              refine qr_iload 91 rfl rfl rfl ?_
              refine qr_callN 94 rfl rfl rfl (sf_165_44x (d := d + 1) hI (by omega) r2 r5) ?_
              rintro _ _ ⟨rfl, v21, rfl, hv21, hp22⟩
              show qr_W (qe L xs vb) (d + 2) qx_e164 _ (94, _, [.int (qz v21)], qw σ α κ ρ, 0, 0)
              refine qr_if_eq 112 97 rfl rfl rfl (qrg hv21 (by decide) (by decide)) (fun h23 => ?_) (fun h23 => ?_)
              · skip
                refine qr_bipush 114 rfl (by decide) rfl ?_
                refine qr_retI rfl rfl (by decide) (by decide) ?_
                exact ⟨_, rfl, hI, hF0, (-13), rfl, (by decide), (Or.inr (Or.inr (Or.inr (Or.inl ⟨by omega, rfl⟩))))⟩
              · skip
                refine qr_aload_n 98 rfl rfl rfl ?_
                refine qr_get 101 rfl rfl rfl (by decide) rfl ?_
                refine qr_iload_n 102 rfl rfl rfl ?_
                refine qr_iload 104 rfl rfl rfl ?_
                refine qr_iload 106 rfl rfl rfl ?_
                refine qr_callN 109 rfl rfl rfl (sf_165_44x (d := d + 1) hI (by omega) r4 r5) ?_
                rintro _ _ ⟨rfl, v24, rfl, hv24, hp25⟩
                show qr_W (qe L xs vb) (d + 2) qx_e164 _ (109, _, [.int (qz v24)], qw σ α κ ρ, 0, 0)
                refine qr_if_ne 115 112 rfl rfl rfl (qrg hv24 (by decide) (by decide)) (fun h26 => ?_) (fun h26 => ?_)
                · skip
                  refine qr_aload_n 116 rfl rfl rfl ?_
                  as_aux_lemma =>
                    refine qr_get 119 rfl rfl rfl (by decide) rfl ?_
                    refine qr_iload_n 120 rfl rfl rfl ?_
                    refine qr_iload_n 121 rfl rfl rfl ?_
                    refine qr_iload_n 122 rfl rfl rfl ?_
                    refine qr_iload 124 rfl rfl rfl ?_
                    refine qr_iload 126 rfl rfl rfl ?_
                    refine qr_callN 129 rfl rfl rfl (sf_166_44x (d := d + 1) hI (by omega) (by omega) (by omega) (by omega) (by omega) (by omega) (by omega)) ?_
                    rintro _ _ ⟨α28, rfl, hI29, hG30, rfl, hx27⟩
                    have hF31 : qFr [] [48] σ α σ α28 := qFr_t hF0 hG30 (by decide) (by decide)
                    show qr_W (qe L xs vb) (d + 2) qx_e164 _ (129, _, [], qw σ α28 κ ρ, 0, 0)
                    refine qr_iload 131 rfl rfl rfl ?_
                    refine qr_retI rfl rfl (by decide) (by decide) ?_
                    exact ⟨_, rfl, hI29, hF31, x5, rfl, r5, (Or.inr (Or.inr (Or.inr (Or.inr (⟨by omega, (hx27.trans (congrArg (fun f => va_cpy (f) (f) (x1 * 60 + x2 : Int).toNat (x3 * 60 + x4 : Int).toNat (x5 : Int).toNat) rfl))⟩)))))⟩
                · skip
                  refine qr_bipush 114 rfl (by decide) rfl ?_
                  as_aux_lemma =>
                    refine qr_retI rfl rfl (by decide) (by decide) ?_
                    exact ⟨_, rfl, hI, hF0, (-13), rfl, (by decide), (Or.inr (Or.inr (Or.inr (Or.inl ⟨by omega, rfl⟩))))⟩
            · skip
              refine qr_bipush 82 rfl (by decide) rfl ?_
              refine qr_retI rfl rfl (by decide) (by decide) ?_
              exact ⟨_, rfl, hI, hF0, (-12), rfl, (by decide), (Or.inr (Or.inr (Or.inl ⟨by omega, rfl⟩)))⟩
        · skip
          refine qr_bipush 48 rfl (by decide) rfl ?_
          refine qr_retI rfl rfl (by decide) (by decide) ?_
          exact ⟨_, rfl, hI, hF0, (-11), rfl, (by decide), (Or.inr (Or.inl ⟨by omega, rfl⟩))⟩
    · skip
      refine qr_iconst 23 rfl rfl ?_
      refine qr_retI rfl rfl (by decide) (by decide) ?_
      exact ⟨_, rfl, hI, hF0, (-1), rfl, (by decide), (Or.inl ⟨by omega, rfl⟩)⟩

set_option maxHeartbeats 4000000 in
set_option maxRecDepth 20000 in
/-- OneRoofModel.road -/
theorem sf_241_86x {L : Nat} {xs : Nat → Int} {vb : Bool} {d : Nat} {σ α : Nat → Nat → Int} {κ : Nat → Option Nat} {ρ : Nat} {x1 : Int} {x2 : Int} (hI : qI σ α κ ρ) (r1 : (-2147483648) ≤ x1 ∧ x1 ≤ 2147483647) (r2 : (-2147483648) ≤ x2 ∧ x2 ≤ 2147483647) : qm_T (qe L xs vb) (d + 3) 241 [.ref 86, .int (qz x1), .int (qz x2)] (qw σ α κ ρ) (fun r w' => ∃ α', w' = qw σ α' κ ρ ∧ qI σ α' κ ρ ∧ qFr [] [93] σ α σ α' ∧ ∃ v : Int, r = some (.int (qz v)) ∧ ((-2147483648) ≤ v ∧ v ≤ 2147483647) ∧ (((v = -1 ∧ ¬ (0 ≤ x1 ∧ x1 < σ 86 6 ∧ 0 ≤ x2 ∧ x2 ≤ 3)) ∧ α' 93 = α 93) ∨ (((0 ≤ x1 ∧ x1 < σ 86 6 ∧ 0 ≤ x2 ∧ x2 ≤ 3) ∧ v = α 93 (x1 : Int).toNat) ∧ α' 93 = qzu (α 93) (x1 : Int).toNat (x2)))) := by
  refine qr_start (d := d + 2) qv_e241 (Nat.le_of_ble_eq_true rfl) ?_
  show qr_W (qe L xs vb) (d + 2) qx_e241 _ (0, [(0, .ref 86), (1, .int (qz x1)), (2, .int (qz x2))], [], _, 0, 0)
  have hF0 := qFr_rf [] [93] σ α
  have hz86_6 : 0 ≤ σ 86 6 ∧ σ 86 6 ≤ 32 := hI.1 86 6
  refine qr_aload_n 1 rfl rfl rfl ?_
  refine qr_iload_n 2 rfl rfl rfl ?_
  refine qr_callN 5 rfl rfl rfl (sf_180_86 (d := d + 0) hI r1) ?_
  have hs3 : 0 ≤ σ 86 6 ∧ σ 86 6 ≤ 32 := hI.1 86 6
  rintro _ _ ⟨rfl, v1, rfl, hv1, hp2⟩
  show qr_W (qe L xs vb) (d + 2) qx_e241 _ (5, _, [.int (qz v1)], qw σ α κ ρ, 0, 0)
  refine qr_if_eq 20 8 rfl rfl rfl (qrg hv1 (by decide) (by decide)) (fun h4 => ?_) (fun h4 => ?_)
  · skip
    refine qr_iconst 21 rfl rfl ?_
    refine qr_retI rfl rfl (by decide) (by decide) ?_
    exact ⟨_, rfl, hI, hF0, (-1), rfl, (by decide), (Or.inl ⟨by omega, rfl⟩)⟩
  · skip
    refine qr_iload_n 9 rfl rfl rfl ?_
    refine qr_i2l 10 rfl r2 rfl ?_
    refine qr_lconst 11 rfl rfl ?_
    refine qy_vl 0 rfl ?_
    refine qr_ldc2 3 14 rfl (by decide) rfl ?_
    refine qr_callN 17 rfl rfl rfl (sf_176 (d := d + 1) hI (qrg r2 (by decide) (by decide)) (by decide) (by decide)) ?_
    rintro _ _ ⟨rfl, v5, rfl, hv5, hp6⟩
    show qr_W (qe L xs vb) (d + 2) qx_e241 _ (17, _, [.int (qz v5)], qw σ α κ ρ, 0, 0)
    refine qr_if_ne 22 20 rfl rfl rfl (qrg hv5 (by decide) (by decide)) (fun h7 => ?_) (fun h7 => ?_)
    · skip
      refine qr_aload_n 23 rfl rfl rfl ?_
      refine qr_get 26 rfl rfl rfl (by decide) rfl ?_
      refine qr_iload_n 27 rfl rfl rfl ?_
      refine qr_iaload 28 rfl rfl (by omega) (by decide) rfl ?_
      refine qr_topI (fun v8 hv8 => ?_)
      have hs9 : (-2147483648) ≤ v8 ∧ v8 ≤ 2147483647 := by rw [hv8]; exact hI.2.1 93 _ (show _ < 32 by omega)
      refine qr_istore_n _ 29 rfl (by decide) rfl rfl ?_
      refine qr_aload_n 30 rfl rfl rfl ?_
      refine qr_get 33 rfl rfl rfl (by decide) rfl ?_
      refine qr_iload_n 34 rfl rfl rfl ?_
      refine qr_iload_n 35 rfl rfl rfl ?_
      refine qr_iastore 36 rfl (by decide) rfl (by omega) (by decide) rfl ?_
      refine qy_wA (qw_r α 93 (qzu (α 93) (x1 : Int).toNat x2)) rfl (fun α10 e11 => ?_)
      have hI12 : qI σ α10 κ ρ := by rw [e11]; exact qI_r hI 93 _ rfl (show (-2147483648) ≤ x2 ∧ x2 ≤ 2147483647 by omega)
      have hF13 : qFr [] [93] σ α σ α10 := by rw [e11]; exact qFr_r hF0 93 _ (by decide)
      refine qr_iload_n 37 rfl rfl rfl ?_
      refine qr_retI rfl rfl (by decide) (by decide) ?_
      exact ⟨_, rfl, hI12, hF13, v8, rfl, hs9, (Or.inr (⟨by omega, ((congrFun e11 93).trans (qw_r_eq.trans (congrArg (fun f => qzu f (x1 : Int).toNat x2) rfl)))⟩))⟩
    · skip
      refine qr_iconst 21 rfl rfl ?_
      refine qr_retI rfl rfl (by decide) (by decide) ?_
      exact ⟨_, rfl, hI, hF0, (-1), rfl, (by decide), (Or.inl ⟨by omega, rfl⟩)⟩

set_option maxHeartbeats 4000000 in
set_option maxRecDepth 20000 in
/-- OneRoofModel.keep -/
theorem sf_262_86x {L : Nat} {xs : Nat → Int} {vb : Bool} {d : Nat} {σ α : Nat → Nat → Int} {κ : Nat → Option Nat} {ρ : Nat} {x1 : Int} {x2 : Int} (hI : qI σ α κ ρ) (r1 : (-2147483648) ≤ x1 ∧ x1 ≤ 2147483647) (r2 : (-2147483648) ≤ x2 ∧ x2 ≤ 2147483647) : qm_T (qe L xs vb) (d + 3) 262 [.ref 86, .int (qz x1), .int (qz x2)] (qw σ α κ ρ) (fun r w' => ∃ α', w' = qw σ α' κ ρ ∧ qI σ α' κ ρ ∧ qFr [] [121, 122] σ α σ α' ∧ ∃ v : Int, r = some (.int (qz v)) ∧ ((-2147483648) ≤ v ∧ v ≤ 2147483647) ∧ (((v = -1 ∧ ¬ (0 ≤ x1 ∧ x1 ≤ 5 ∧ (x2 = -1 ∨ (0 ≤ x2 ∧ x2 < σ 86 24)))) ∧ α' 121 = α 121 ∧ α' 122 = α 122) ∨ ((v = 1 ∧ (0 ≤ x1 ∧ x1 ≤ 5 ∧ (x2 = -1 ∨ (0 ≤ x2 ∧ x2 < σ 86 24)))) ∧ α' 121 = qzu (α 121) (x1 : Int).toNat (x2) ∧ α' 122 = qzu (α 122) (x1 : Int).toNat (0)))) := by
  refine qr_start (d := d + 2) qv_e262 (Nat.le_of_ble_eq_true rfl) ?_
  show qr_W (qe L xs vb) (d + 2) qx_e262 _ (0, [(0, .ref 86), (1, .int (qz x1)), (2, .int (qz x2))], [], _, 0, 0)
  have hF0 := qFr_rf [] [121, 122] σ α
  have hz86_24 : 0 ≤ σ 86 24 ∧ σ 86 24 ≤ 60 := hI.1 86 24
  refine qr_iload_n 1 rfl rfl rfl ?_
  refine qr_callN 4 rfl rfl rfl (sf_178 (d := d + 0) hI r1) ?_
  rintro _ _ ⟨rfl, v1, rfl, hv1, hp2⟩
  show qr_W (qe L xs vb) (d + 2) qx_e262 _ (4, _, [.int (qz v1)], qw σ α κ ρ, 0, 0)
  refine qr_if_eq 20 7 rfl rfl rfl (qrg hv1 (by decide) (by decide)) (fun h3 => ?_) (fun h3 => ?_)
  · skip
    refine qr_iconst 21 rfl rfl ?_
    refine qr_retI rfl rfl (by decide) (by decide) ?_
    exact ⟨_, rfl, hI, hF0, (-1), rfl, (by decide), (Or.inl ⟨by omega, rfl, rfl⟩)⟩
  · skip
    refine qr_iload_n 8 rfl rfl rfl ?_
    refine qr_iconst 9 rfl rfl ?_
    refine qr_icmp_eq 22 12 rfl rfl rfl r2 (by decide) (fun h4 => ?_) (fun h4 => ?_)
    · skip
      refine qr_aload_n 23 rfl rfl rfl ?_
      refine qr_get 26 rfl rfl rfl (by decide) rfl ?_
      refine qr_iload_n 27 rfl rfl rfl ?_
      refine qr_iload_n 28 rfl rfl rfl ?_
      refine qr_iastore 29 rfl (by decide) rfl (by omega) (by decide) rfl ?_
      refine qy_wA (qw_r α 121 (qzu (α 121) (x1 : Int).toNat x2)) rfl (fun α5 e6 => ?_)
      have hI7 : qI σ α5 κ ρ := by rw [e6]; exact qI_r hI 121 _ rfl (show (-1) ≤ x2 ∧ x2 ≤ 64 by omega)
      have hF8 : qFr [] [121, 122] σ α σ α5 := by rw [e6]; exact qFr_r hF0 121 _ (by decide)
      refine qr_aload_n 30 rfl rfl rfl ?_
      refine qr_get 33 rfl rfl rfl (by decide) rfl ?_
      refine qr_iload_n 34 rfl rfl rfl ?_
      refine qr_iconst 35 rfl rfl ?_
      refine qr_iastore 36 rfl (by decide) rfl (by omega) (by decide) rfl ?_
      refine qy_wA (qw_r α5 122 (qzu (α5 122) (x1 : Int).toNat 0)) rfl (fun α9 e10 => ?_)
      have hI11 : qI σ α9 κ ρ := by rw [e10]; exact qI_r hI7 122 _ rfl (show 0 ≤ 0 ∧ 0 ≤ 60 by omega)
      have hF12 : qFr [] [121, 122] σ α σ α9 := by rw [e10]; exact qFr_r hF8 122 _ (by decide)
      refine qr_iconst 37 rfl rfl ?_
      refine qr_retI rfl rfl (by decide) (by decide) ?_
      exact ⟨_, rfl, hI11, hF12, 1, rfl, (by decide), (Or.inr (⟨by omega, ((congrFun e10 121).trans ((qw_r_ne (by decide)).trans ((congrFun e6 121).trans (qw_r_eq.trans (congrArg (fun f => qzu f (x1 : Int).toNat x2) rfl))))), ((congrFun e10 122).trans (qw_r_eq.trans (congrArg (fun f => qzu f (x1 : Int).toNat 0) ((congrFun e6 122).trans ((qw_r_ne (by decide)).trans rfl)))))⟩))⟩
    · skip
      refine qr_aload_n 13 rfl rfl rfl ?_
      refine qr_iload_n 14 rfl rfl rfl ?_
      refine qr_callN 17 rfl rfl rfl (sf_200_86 (d := d + 0) hI r2) ?_
      have hs15 : 0 ≤ σ 86 24 ∧ σ 86 24 ≤ 60 := hI.1 86 24
      rintro _ _ ⟨rfl, v13, rfl, hv13, hp14⟩
      show qr_W (qe L xs vb) (d + 2) qx_e262 _ (17, _, [.int (qz v13)], qw σ α κ ρ, 0, 0)
      refine qr_if_ne 22 20 rfl rfl rfl (qrg hv13 (by decide) (by decide)) (fun h16 => ?_) (fun h16 => ?_)
      · skip
        refine qr_aload_n 23 rfl rfl rfl ?_
        refine qr_get 26 rfl rfl rfl (by decide) rfl ?_
        refine qr_iload_n 27 rfl rfl rfl ?_
        refine qr_iload_n 28 rfl rfl rfl ?_
        refine qr_iastore 29 rfl (by decide) rfl (by omega) (by decide) rfl ?_
        refine qy_wA (qw_r α 121 (qzu (α 121) (x1 : Int).toNat x2)) rfl (fun α17 e18 => ?_)
        have hI19 : qI σ α17 κ ρ := by rw [e18]; exact qI_r hI 121 _ rfl (show (-1) ≤ x2 ∧ x2 ≤ 64 by omega)
        have hF20 : qFr [] [121, 122] σ α σ α17 := by rw [e18]; exact qFr_r hF0 121 _ (by decide)
        refine qr_aload_n 30 rfl rfl rfl ?_
        refine qr_get 33 rfl rfl rfl (by decide) rfl ?_
        refine qr_iload_n 34 rfl rfl rfl ?_
        refine qr_iconst 35 rfl rfl ?_
        refine qr_iastore 36 rfl (by decide) rfl (by omega) (by decide) rfl ?_
        refine qy_wA (qw_r α17 122 (qzu (α17 122) (x1 : Int).toNat 0)) rfl (fun α21 e22 => ?_)
        have hI23 : qI σ α21 κ ρ := by rw [e22]; exact qI_r hI19 122 _ rfl (show 0 ≤ 0 ∧ 0 ≤ 60 by omega)
        have hF24 : qFr [] [121, 122] σ α σ α21 := by rw [e22]; exact qFr_r hF20 122 _ (by decide)
        refine qr_iconst 37 rfl rfl ?_
        refine qr_retI rfl rfl (by decide) (by decide) ?_
        exact ⟨_, rfl, hI23, hF24, 1, rfl, (by decide), (Or.inr (⟨by omega, ((congrFun e22 121).trans ((qw_r_ne (by decide)).trans ((congrFun e18 121).trans (qw_r_eq.trans (congrArg (fun f => qzu f (x1 : Int).toNat x2) rfl))))), ((congrFun e22 122).trans (qw_r_eq.trans (congrArg (fun f => qzu f (x1 : Int).toNat 0) ((congrFun e18 122).trans ((qw_r_ne (by decide)).trans rfl)))))⟩))⟩
      · skip
        refine qr_iconst 21 rfl rfl ?_
        refine qr_retI rfl rfl (by decide) (by decide) ?_
        exact ⟨_, rfl, hI, hF0, (-1), rfl, (by decide), (Or.inl ⟨by omega, rfl, rfl⟩)⟩

set_option maxHeartbeats 4000000 in
set_option maxRecDepth 20000 in
/-- OneRoofModel.row -/
theorem sf_263_86x {L : Nat} {xs : Nat → Int} {vb : Bool} {d : Nat} {σ α : Nat → Nat → Int} {κ : Nat → Option Nat} {ρ : Nat} {x1 : Int} {x2 : Int} {x3 : Int} (hI : qI σ α κ ρ) (r1 : (-2147483648) ≤ x1 ∧ x1 ≤ 2147483647) (r2 : (-2147483648) ≤ x2 ∧ x2 ≤ 2147483647) (r3 : (-2147483648) ≤ x3 ∧ x3 ≤ 2147483647) : qm_T (qe L xs vb) (d + 3) 263 [.ref 86, .int (qz x1), .int (qz x2), .int (qz x3)] (qw σ α κ ρ) (fun r w' => ∃ α', w' = qw σ α' κ ρ ∧ qI σ α' κ ρ ∧ qFr [] [121, 122, 123] σ α σ α' ∧ ∃ v : Int, r = some (.int (qz v)) ∧ ((-2147483648) ≤ v ∧ v ≤ 2147483647) ∧ (((v = -1 ∧ ¬ (0 ≤ x1 ∧ x1 ≤ 5 ∧ 0 ≤ x2 ∧ x2 ≤ 4 ∧ x3 ≤ 60)) ∧ α' 121 = α 121 ∧ α' 122 = α 122 ∧ α' 123 = α 123) ∨ ((v = -14 ∧ (0 ≤ x1 ∧ x1 ≤ 5 ∧ 0 ≤ x2 ∧ x2 ≤ 4 ∧ x3 ≤ 60) ∧ x3 < 0) ∧ α' 121 = α 121 ∧ α' 122 = α 122 ∧ α' 123 = α 123) ∨ ((v = 1 ∧ (0 ≤ x1 ∧ x1 ≤ 5 ∧ 0 ≤ x2 ∧ x2 ≤ 4 ∧ x3 ≤ 60) ∧ 0 ≤ x3) ∧ α' 121 = qzu (α 121) (x1 : Int).toNat (60 + x2) ∧ α' 122 = qzu (α 122) (x1 : Int).toNat (x3) ∧ α' 123 = qzfl (α 123) (60 * x1 : Int).toNat 60))) := by
  refine qr_start (d := d + 2) qv_e263 (Nat.le_of_ble_eq_true rfl) ?_
  show qr_W (qe L xs vb) (d + 2) qx_e263 _ (0, [(0, .ref 86), (1, .int (qz x1)), (2, .int (qz x2)), (3, .int (qz x3))], [], _, 0, 0)
  have hF0 := qFr_rf [] [121, 122, 123] σ α
  refine qr_iload_n 1 rfl rfl rfl ?_
  refine qr_callN 4 rfl rfl rfl (sf_178 (d := d + 0) hI r1) ?_
  rintro _ _ ⟨rfl, v1, rfl, hv1, hp2⟩
  show qr_W (qe L xs vb) (d + 2) qx_e263 _ (4, _, [.int (qz v1)], qw σ α κ ρ, 0, 0)
  refine qr_if_eq 25 7 rfl rfl rfl (qrg hv1 (by decide) (by decide)) (fun h3 => ?_) (fun h3 => ?_)
  · skip
    refine qr_iconst 26 rfl rfl ?_
    refine qr_retI rfl rfl (by decide) (by decide) ?_
    exact ⟨_, rfl, hI, hF0, (-1), rfl, (by decide), (Or.inl ⟨by omega, rfl, rfl, rfl⟩)⟩
  · skip
    refine qr_iload_n 8 rfl rfl rfl ?_
    refine qr_i2l 9 rfl r2 rfl ?_
    refine qr_lconst 10 rfl rfl ?_
    refine qy_vl 0 rfl ?_
    refine qr_ldc2 4 13 rfl (by decide) rfl ?_
    refine qr_callN 16 rfl rfl rfl (sf_176 (d := d + 1) hI (qrg r2 (by decide) (by decide)) (by decide) (by decide)) ?_
    rintro _ _ ⟨rfl, v4, rfl, hv4, hp5⟩
    show qr_W (qe L xs vb) (d + 2) qx_e263 _ (16, _, [.int (qz v4)], qw σ α κ ρ, 0, 0)
    refine qr_if_eq 25 19 rfl rfl rfl (qrg hv4 (by decide) (by decide)) (fun h6 => ?_) (fun h6 => ?_)
    · skip
      refine qr_iconst 26 rfl rfl ?_
      refine qr_retI rfl rfl (by decide) (by decide) ?_
      exact ⟨_, rfl, hI, hF0, (-1), rfl, (by decide), (Or.inl ⟨by omega, rfl, rfl, rfl⟩)⟩
    · skip
      refine qr_iload_n 20 rfl rfl rfl ?_
      refine qr_bipush 22 rfl (by decide) rfl ?_
      refine qr_icmp_le 27 25 rfl rfl rfl r3 (by decide) (fun h7 => ?_) (fun h7 => ?_)
      · skip
        refine qr_iload_n 28 rfl rfl rfl ?_
        refine qr_if_ge 34 31 rfl rfl rfl r3 (fun h8 => ?_) (fun h8 => ?_)
        · skip
          refine qr_aload_n 35 rfl rfl rfl ?_
          refine qr_get 38 rfl rfl rfl (by decide) rfl ?_
          refine qr_iload_n 39 rfl rfl rfl ?_
          refine qr_bipush 41 rfl (by decide) rfl ?_
          refine qr_iload_n 42 rfl rfl rfl ?_
          refine qr_iadd 43 rfl rfl ?_
          refine qr_iastore 44 rfl (by decide) rfl (by omega) (by decide) rfl ?_
          refine qy_wA (qw_r α 121 (qzu (α 121) (x1 : Int).toNat (60 + x2))) rfl (fun α9 e10 => ?_)
          have hI11 : qI σ α9 κ ρ := by rw [e10]; exact qI_r hI 121 _ rfl (show (-1) ≤ (60 + x2) ∧ (60 + x2) ≤ 64 by omega)
          have hF12 : qFr [] [121, 122, 123] σ α σ α9 := by rw [e10]; exact qFr_r hF0 121 _ (by decide)
          refine qr_aload_n 45 rfl rfl rfl ?_
          refine qr_get 48 rfl rfl rfl (by decide) rfl ?_
          refine qr_iload_n 49 rfl rfl rfl ?_
          refine qr_iload_n 50 rfl rfl rfl ?_
          refine qr_iastore 51 rfl (by decide) rfl (by omega) (by decide) rfl ?_
          refine qy_wA (qw_r α9 122 (qzu (α9 122) (x1 : Int).toNat x3)) rfl (fun α13 e14 => ?_)
          have hI15 : qI σ α13 κ ρ := by rw [e14]; exact qI_r hI11 122 _ rfl (show 0 ≤ x3 ∧ x3 ≤ 60 by omega)
          have hF16 : qFr [] [121, 122, 123] σ α σ α13 := by rw [e14]; exact qFr_r hF12 122 _ (by decide)
          refine qr_bipush 53 rfl (by decide) rfl ?_
          refine qr_iload_n 54 rfl rfl rfl ?_
          refine qr_imul 55 rfl rfl ?_
          refine qr_istore _ 57 rfl (by decide) rfl rfl ?_
          have hL87 : ∀ (n : Nat) (ls : qm_L) (u76 : Int) (α78 : Nat → Nat → Int), 360 - u76 < (n : Int) → qm_get ls 0 = some (.ref 86) → qm_get ls 1 = some (.int (qz x1)) → qm_get ls 4 = some (.int (qz u76)) → (0 ≤ u76 ∧ u76 ≤ 360) → qI σ α78 κ ρ → qFr [] [121, 122, 123] σ α σ α78 → α78 123 = (qzfl (α 123) (60 * x1 : Int).toNat (u76 - 60 * x1 : Int).toNat) → α78 121 = (qzu (α 121) (x1 : Int).toNat (60 + x2)) → α78 122 = (qzu (α 122) (x1 : Int).toNat x3) → 60 * x1 ≤ u76 ∧ u76 ≤ 60 * x1 + 60 → (60 * x1) ≤ u76 → qr_W (qe L xs vb) (d + 2) qx_e263 (fun r w' => ∃ α', w' = qw σ α' κ ρ ∧ qI σ α' κ ρ ∧ qFr [] [121, 122, 123] σ α σ α' ∧ ∃ v : Int, r = some (.int (qz v)) ∧ ((-2147483648) ≤ v ∧ v ≤ 2147483647) ∧ (((v = -1 ∧ ¬ (0 ≤ x1 ∧ x1 ≤ 5 ∧ 0 ≤ x2 ∧ x2 ≤ 4 ∧ x3 ≤ 60)) ∧ α' 121 = α 121 ∧ α' 122 = α 122 ∧ α' 123 = α 123) ∨ ((v = -14 ∧ (0 ≤ x1 ∧ x1 ≤ 5 ∧ 0 ≤ x2 ∧ x2 ≤ 4 ∧ x3 ≤ 60) ∧ x3 < 0) ∧ α' 121 = α 121 ∧ α' 122 = α 122 ∧ α' 123 = α 123) ∨ ((v = 1 ∧ (0 ≤ x1 ∧ x1 ≤ 5 ∧ 0 ≤ x2 ∧ x2 ≤ 4 ∧ x3 ≤ 60) ∧ 0 ≤ x3) ∧ α' 121 = qzu (α 121) (x1 : Int).toNat (60 + x2) ∧ α' 122 = qzu (α 122) (x1 : Int).toNat (x3) ∧ α' 123 = qzfl (α 123) (60 * x1 : Int).toNat 60))) (57, ls, [], qw σ α78 κ ρ, 0, 0) := by
            intro n
            induction n with
            | zero => intro ls u76 α78 hm g73 g74 g75 hf81 hI79 hF80 hx82 hx83 hx84 hx85 hx86; exact False.elim (by omega)
            | succ n ih88 =>
              intro ls u76 α78 hm g73 g74 g75 hf81 hI79 hF80 hx82 hx83 hx84 hx85 hx86
              refine qr_iload 59 rfl g75 rfl ?_
              refine qr_bipush 61 rfl (by decide) rfl ?_
              refine qr_iload_n 62 rfl g74 rfl ?_
              refine qr_imul 63 rfl rfl ?_
              refine qr_bipush 65 rfl (by decide) rfl ?_
              refine qr_iadd 66 rfl rfl ?_
              refine qr_icmp_ge 83 69 rfl rfl rfl (qrg hf81 (by decide) (by decide)) (by omega) (fun h89 => ?_) (fun h89 => ?_)
              · skip
                refine qr_iconst 84 rfl rfl ?_
                refine qr_retI rfl rfl (by decide) (by decide) ?_
                exact ⟨_, rfl, hI79, hF80, 1, rfl, (by decide), (Or.inr (Or.inr (⟨by omega, hx83, hx84, (hx82.trans (by congr 1; omega))⟩)))⟩
              · skip
                refine qr_aload_n 70 rfl g73 rfl ?_
                refine qr_get 73 rfl rfl rfl (by decide) rfl ?_
                refine qr_iload 75 rfl g75 rfl ?_
                refine qr_lconst 76 rfl rfl ?_
                refine qy_vl 0 rfl ?_
                refine qr_lastore 77 rfl (by decide) rfl (by omega) (by decide) rfl ?_
                refine qy_wA (qw_r α78 123 (qzu (α78 123) (u76 : Int).toNat 0)) rfl (fun α90 e91 => ?_)
                have hI92 : qI σ α90 κ ρ := by rw [e91]; exact qI_r hI79 123 _ rfl (show (-9223372036854775808) ≤ 0 ∧ 0 ≤ 9223372036854775807 by omega)
                have hF93 : qFr [] [121, 122, 123] σ α σ α90 := by rw [e91]; exact qFr_r hF80 123 _ (by decide)
                refine qr_iinc _ 80 rfl g75 (by decide) rfl rfl ?_
                refine qr_goto 57 rfl rfl ?_
                exact ih88 _ (u76 + 1) α90 (by omega) (qm_gk g73 (by decide) (Or.inl (by decide))) (qm_gk g74 (by decide) (Or.inl (by decide))) (qm_ge _ _ _) (by omega) hI92 hF93 (((congrFun e91 123).trans (qw_r_eq.trans (congrArg (fun f => qzu f (u76 : Int).toNat 0) hx82))).trans (qzfl_s (by omega) (by omega))) ((congrFun e91 121).trans ((qw_r_ne (by decide)).trans hx83)) ((congrFun e91 122).trans ((qw_r_ne (by decide)).trans hx84)) (by omega) (by omega)
          exact hL87 ((360 - (60 * x1) + 1 : Int)).toNat _ (60 * x1) α13 (by omega) rfl rfl rfl (by omega) hI15 hF16 (((congrFun e14 123).trans ((qw_r_ne (by decide)).trans ((congrFun e10 123).trans ((qw_r_ne (by decide)).trans rfl)))).trans ((qzfl_0 _ _).trans (by congr 1; omega))) ((congrFun e14 121).trans ((qw_r_ne (by decide)).trans ((congrFun e10 121).trans (qw_r_eq.trans (congrArg (fun f => qzu f (x1 : Int).toNat (60 + x2)) rfl))))) ((congrFun e14 122).trans (qw_r_eq.trans (congrArg (fun f => qzu f (x1 : Int).toNat x3) ((congrFun e10 122).trans ((qw_r_ne (by decide)).trans rfl))))) (by omega) (by omega)
        · skip
          refine qr_bipush 33 rfl (by decide) rfl ?_
          refine qr_retI rfl rfl (by decide) (by decide) ?_
          exact ⟨_, rfl, hI, hF0, (-14), rfl, (by decide), (Or.inr (Or.inl ⟨by omega, rfl, rfl, rfl⟩))⟩
      · skip
        refine qr_iconst 26 rfl rfl ?_
        refine qr_retI rfl rfl (by decide) (by decide) ?_
        exact ⟨_, rfl, hI, hF0, (-1), rfl, (by decide), (Or.inl ⟨by omega, rfl, rfl, rfl⟩)⟩

set_option maxHeartbeats 4000000 in
set_option maxRecDepth 20000 in
/-- OneRoofModel.refusal -/
theorem sf_265_86x {L : Nat} {xs : Nat → Int} {vb : Bool} {d : Nat} {σ α : Nat → Nat → Int} {κ : Nat → Option Nat} {ρ : Nat} {x1 : Int} {x2 : Int} (hI : qI σ α κ ρ) (r1 : (-2147483648) ≤ x1 ∧ x1 ≤ 2147483647) (r2 : (-2147483648) ≤ x2 ∧ x2 ≤ 2147483647) : qm_T (qe L xs vb) (d + 3) 265 [.ref 86, .int (qz x1), .int (qz x2)] (qw σ α κ ρ) (fun r w' => w' = qw σ α κ ρ ∧ ∃ v : Int, r = some (.int (qz v)) ∧ ((-13) ≤ v ∧ v ≤ 0) ∧ ((v = -1 ∧ ¬ (0 ≤ x1 ∧ x1 ≤ 5)) ∨ (v = -11 ∧ 0 ≤ x1 ∧ x1 ≤ 5 ∧ α 121 (x1 : Int).toNat < 0) ∨ (v = -12 ∧ 0 ≤ x1 ∧ x1 ≤ 5 ∧ 0 ≤ α 121 (x1 : Int).toNat ∧ α 121 (x1 : Int).toNat < 60) ∨ (v = -13 ∧ 0 ≤ x1 ∧ x1 ≤ 5 ∧ 60 ≤ α 121 (x1 : Int).toNat ∧ ¬ (0 ≤ x2 ∧ x2 < α 122 (x1 : Int).toNat)) ∨ (v = 0 ∧ 0 ≤ x1 ∧ x1 ≤ 5 ∧ 60 ≤ α 121 (x1 : Int).toNat ∧ 0 ≤ x2 ∧ x2 < α 122 (x1 : Int).toNat))) := by
  refine qr_start (d := d + 2) qv_e265 (Nat.le_of_ble_eq_true rfl) ?_
  show qr_W (qe L xs vb) (d + 2) qx_e265 _ (0, [(0, .ref 86), (1, .int (qz x1)), (2, .int (qz x2))], [], _, 0, 0)
  have qx1_121 : 0 ≤ x1 ∧ x1 ≤ 5 → -1 ≤ α 121 (x1 : Int).toNat ∧ α 121 (x1 : Int).toNat ≤ 64 := fun h => hI.2.1 121 _ (show (x1 : Int).toNat < 6 by omega)
  have qx1_122 : 0 ≤ x1 ∧ x1 ≤ 5 → 0 ≤ α 122 (x1 : Int).toNat ∧ α 122 (x1 : Int).toNat ≤ 60 := fun h => hI.2.1 122 _ (show (x1 : Int).toNat < 6 by omega)
  refine qr_iload_n 1 rfl rfl rfl ?_
  refine qr_callN 4 rfl rfl rfl (sf_178 (d := d + 0) hI r1) ?_
  rintro _ _ ⟨rfl, v1, rfl, hv1, hp2⟩
  show qr_W (qe L xs vb) (d + 2) qx_e265 _ (4, _, [.int (qz v1)], qw σ α κ ρ, 0, 0)
  refine qr_if_ne 9 7 rfl rfl rfl (qrg hv1 (by decide) (by decide)) (fun h3 => ?_) (fun h3 => ?_)
  · skip
    refine qr_aload_n 10 rfl rfl rfl ?_
    refine qr_get 13 rfl rfl rfl (by decide) rfl ?_
    refine qr_iload_n 14 rfl rfl rfl ?_
    refine qr_iaload 15 rfl rfl (by omega) (by decide) rfl ?_
    refine qr_topI (fun v4 hv4 => ?_)
    have hs5 : (-1) ≤ v4 ∧ v4 ≤ 64 := by rw [hv4]; exact hI.2.1 121 _ (show _ < 6 by omega)
    refine qr_if_ge 21 18 rfl rfl rfl (qrg hs5 (by decide) (by decide)) (fun h6 => ?_) (fun h6 => ?_)
    · skip
      refine qr_aload_n 22 rfl rfl rfl ?_
      refine qr_get 25 rfl rfl rfl (by decide) rfl ?_
      refine qr_iload_n 26 rfl rfl rfl ?_
      refine qr_iaload 27 rfl rfl (by omega) (by decide) rfl ?_
      refine qr_topI (fun v7 hv7 => ?_)
      have hs8 : (-1) ≤ v7 ∧ v7 ≤ 64 := by rw [hv7]; exact hI.2.1 121 _ (show _ < 6 by omega)
      refine qr_bipush 29 rfl (by decide) rfl ?_
      refine qr_icmp_ge 35 32 rfl rfl rfl (qrg hs8 (by decide) (by decide)) (by decide) (fun h9 => ?_) (fun h9 => ?_)
      · skip
        refine qr_iload_n 36 rfl rfl rfl ?_
        refine qr_if_lt 53 39 rfl rfl rfl r2 (fun h10 => ?_) (fun h10 => ?_)
        · skip
          refine qr_bipush 55 rfl (by decide) rfl ?_
          refine qr_retI rfl rfl (by decide) (by decide) ?_
          exact ⟨rfl, (-13), rfl, (by decide), by omega⟩
        · skip
          refine qr_iload_n 40 rfl rfl rfl ?_
          refine qr_aload_n 41 rfl rfl rfl ?_
          refine qr_get 44 rfl rfl rfl (by decide) rfl ?_
          refine qr_iload_n 45 rfl rfl rfl ?_
          refine qr_iaload 46 rfl rfl (by omega) (by decide) rfl ?_
          refine qr_topI (fun v11 hv11 => ?_)
          have hs12 : 0 ≤ v11 ∧ v11 ≤ 60 := by rw [hv11]; exact hI.2.1 122 _ (show _ < 6 by omega)
          refine qr_icmp_ge 53 49 rfl rfl rfl r2 (qrg hs12 (by decide) (by decide)) (fun h13 => ?_) (fun h13 => ?_)
          · skip
            refine qr_bipush 55 rfl (by decide) rfl ?_
            refine qr_retI rfl rfl (by decide) (by decide) ?_
            exact ⟨rfl, (-13), rfl, (by decide), by omega⟩
          · skip
            refine qr_iconst 50 rfl rfl ?_
            refine qr_goto 55 rfl rfl ?_
            refine qr_retI rfl rfl (by decide) (by decide) ?_
            exact ⟨rfl, 0, rfl, (by decide), by omega⟩
      · skip
        refine qr_bipush 34 rfl (by decide) rfl ?_
        refine qr_retI rfl rfl (by decide) (by decide) ?_
        exact ⟨rfl, (-12), rfl, (by decide), by omega⟩
    · skip
      refine qr_bipush 20 rfl (by decide) rfl ?_
      refine qr_retI rfl rfl (by decide) (by decide) ?_
      exact ⟨rfl, (-11), rfl, (by decide), by omega⟩
  · skip
    refine qr_iconst 8 rfl rfl ?_
    refine qr_retI rfl rfl (by decide) (by decide) ?_
    exact ⟨rfl, (-1), rfl, (by decide), by omega⟩

set_option maxHeartbeats 4000000 in
set_option maxRecDepth 20000 in
/-- OneRoofModel.asSort -/
theorem sf_266x {L : Nat} {xs : Nat → Int} {vb : Bool} {d : Nat} {σ α : Nat → Nat → Int} {κ : Nat → Option Nat} {ρ : Nat} {x0 : Int} {x1 : Int} (hI : qI σ α κ ρ) (r0 : 0 ≤ x0 ∧ x0 ≤ 4) (r1 : (-9223372036854775808) ≤ x1 ∧ x1 ≤ 9223372036854775807) : qm_T (qe L xs vb) (d + 1) 266 [.int (qz x0), .long (ql x1)] (qw σ α κ ρ) (fun r w' => w' = qw σ α κ ρ ∧ ∃ v : Int, r = some (.long (ql v)) ∧ ((-9223372036854775808) ≤ v ∧ v ≤ 9223372036854775807) ∧ v = qnar x0 x1) := by
  refine qr_start (d := d + 0) qv_e266 (Nat.le_of_ble_eq_true rfl) ?_
  show qr_W (qe L xs vb) (d + 0) qx_e266 _ (0, [(0, .int (qz x0)), (1, .long (ql x1))], [], _, 0, 0)
  refine qr_iload_n 1 rfl rfl rfl ?_
  refine qr_if_ne 11 4 rfl rfl rfl (qrg r0 (by decide) (by decide)) (fun h1 => ?_) (fun h1 => ?_)
  · skip
    refine qr_iload_n 12 rfl rfl rfl ?_
    refine qr_iconst 13 rfl rfl ?_
    refine qr_icmp_ne 23 16 rfl rfl rfl (qrg r0 (by decide) (by decide)) (by decide) (fun h2 => ?_) (fun h2 => ?_)
    · skip
      refine qr_iload_n 24 rfl rfl rfl ?_
      refine qr_iconst 25 rfl rfl ?_
      refine qr_icmp_ne 34 28 rfl rfl rfl (qrg r0 (by decide) (by decide)) (by decide) (fun h3 => ?_) (fun h3 => ?_)
      · skip
        refine qr_iload_n 35 rfl rfl rfl ?_
        refine qr_iconst 36 rfl rfl ?_
        refine qr_icmp_ne 53 39 rfl rfl rfl (qrg r0 (by decide) (by decide)) (by decide) (fun h4 => ?_) (fun h4 => ?_)
        · skip
          refine qr_lload_n 54 rfl rfl rfl ?_
          refine qr_retL rfl rfl (by decide) (by decide) ?_
          exact ⟨rfl, x1, rfl, r1, (by unfold qnar; rw [if_neg (by omega), if_neg (by omega), if_neg (by omega), if_pos (by omega)])⟩
        · skip
          refine qr_lload_n 40 rfl rfl rfl ?_
          refine qr_lconst 41 rfl rfl ?_
          refine qy_vl 0 rfl ?_
          refine qr_lc_eq 49 45 rfl rfl rfl rfl r1 (by decide) (fun h5 => ?_) (fun h5 => ?_)
          · skip
            refine qr_lconst 50 rfl rfl ?_
            refine qy_vl 0 rfl ?_
            refine qr_goto 54 rfl rfl ?_
            refine qr_retL rfl rfl (by decide) (by decide) ?_
            exact ⟨rfl, 0, rfl, (by decide), (by unfold qnar; rw [if_neg (by omega), if_neg (by omega), if_neg (by omega), if_neg (by omega)]; first | (rw [if_pos (by omega)]) | (rw [if_neg (by omega)]))⟩
          · skip
            refine qr_lconst 46 rfl rfl ?_
            refine qy_vl 1 rfl ?_
            refine qr_goto 54 rfl rfl ?_
            refine qr_retL rfl rfl (by decide) (by decide) ?_
            exact ⟨rfl, 1, rfl, (by decide), (by unfold qnar; rw [if_neg (by omega), if_neg (by omega), if_neg (by omega), if_neg (by omega)]; first | (rw [if_pos (by omega)]) | (rw [if_neg (by omega)]))⟩
      · skip
        refine qr_lload_n 29 rfl rfl rfl ?_
        refine qr_l2i 30 rfl rfl ?_
        refine qy_canE (fun v6 hv6 hev6 => ?_)
        refine qr_i2l 31 rfl hv6 rfl ?_
        refine qr_goto 54 rfl rfl ?_
        refine qr_retL rfl rfl (by decide) (by decide) ?_
        exact ⟨rfl, v6, rfl, (qrg hv6 (by decide) (by decide)), (by unfold qnar; rw [if_neg (by omega), if_neg (by omega), if_pos (by omega)]; exact qna_i hev6 (by omega))⟩
    · skip
      refine qr_lload_n 17 rfl rfl rfl ?_
      refine qr_l2i 18 rfl rfl ?_
      refine qy_canE (fun v7 hv7 hev7 => ?_)
      refine qr_i2s 19 rfl rfl ?_
      refine qy_canE (fun v8 hv8 hev8 => ?_)
      refine qr_i2l 20 rfl hv8 rfl ?_
      refine qr_goto 54 rfl rfl ?_
      refine qr_retL rfl rfl (by decide) (by decide) ?_
      exact ⟨rfl, v8, rfl, (qrg hv8 (by decide) (by decide)), (by unfold qnar; rw [if_neg (by omega), if_pos (by omega)]; exact qna_s hev7 hev8 (by omega))⟩
  · skip
    refine qr_lload_n 5 rfl rfl rfl ?_
    refine qr_l2i 6 rfl rfl ?_
    refine qy_canE (fun v9 hv9 hev9 => ?_)
    refine qr_i2b 7 rfl rfl ?_
    refine qy_canE (fun v10 hv10 hev10 => ?_)
    refine qr_i2l 8 rfl hv10 rfl ?_
    refine qr_goto 54 rfl rfl ?_
    refine qr_retL rfl rfl (by decide) (by decide) ?_
    exact ⟨rfl, v10, rfl, (qrg hv10 (by decide) (by decide)), (by unfold qnar; rw [if_pos (by omega)]; exact qna_b hev9 hev10 (by omega))⟩

set_option maxHeartbeats 4000000 in
set_option maxRecDepth 20000 in
/-- OneRoofModel.put -/
theorem sf_264_86x {L : Nat} {xs : Nat → Int} {vb : Bool} {d : Nat} {σ α : Nat → Nat → Int} {κ : Nat → Option Nat} {ρ : Nat} {x1 : Int} {x2 : Int} {x3 : Int} (hI : qI σ α κ ρ) (r1 : (-2147483648) ≤ x1 ∧ x1 ≤ 2147483647) (r2 : (-2147483648) ≤ x2 ∧ x2 ≤ 2147483647) (r3 : (-9223372036854775808) ≤ x3 ∧ x3 ≤ 9223372036854775807) : qm_T (qe L xs vb) (d + 4) 264 [.ref 86, .int (qz x1), .int (qz x2), .long (ql x3)] (qw σ α κ ρ) (fun r w' => ∃ α', w' = qw σ α' κ ρ ∧ qI σ α' κ ρ ∧ qFr [] [123] σ α σ α' ∧ ∃ v : Int, r = some (.int (qz v)) ∧ ((-2147483648) ≤ v ∧ v ≤ 2147483647) ∧ (((¬ v = 0 ∧ ((v = -1 ∧ ¬ (0 ≤ x1 ∧ x1 ≤ 5)) ∨ (v = -11 ∧ 0 ≤ x1 ∧ x1 ≤ 5 ∧ α 121 (x1 : Int).toNat < 0) ∨ (v = -12 ∧ 0 ≤ x1 ∧ x1 ≤ 5 ∧ 0 ≤ α 121 (x1 : Int).toNat ∧ α 121 (x1 : Int).toNat < 60) ∨ (v = -13 ∧ 0 ≤ x1 ∧ x1 ≤ 5 ∧ 60 ≤ α 121 (x1 : Int).toNat ∧ ¬ (0 ≤ x2 ∧ x2 < α 122 (x1 : Int).toNat)) ∨ (v = 0 ∧ 0 ≤ x1 ∧ x1 ≤ 5 ∧ 60 ≤ α 121 (x1 : Int).toNat ∧ 0 ≤ x2 ∧ x2 < α 122 (x1 : Int).toNat))) ∧ α' 123 = α 123) ∨ ((v = 1 ∧ (0 ≤ x1 ∧ x1 ≤ 5) ∧ 60 ≤ α 121 (x1 : Int).toNat ∧ 0 ≤ x2 ∧ x2 < α 122 (x1 : Int).toNat) ∧ α' 123 = qzu (α 123) (60 * x1 + x2 : Int).toNat (qnar (α 121 (x1 : Int).toNat - 60) x3)))) := by
  refine qr_start (d := d + 3) qv_e264 (Nat.le_of_ble_eq_true rfl) ?_
  show qr_W (qe L xs vb) (d + 3) qx_e264 _ (0, [(0, .ref 86), (1, .int (qz x1)), (2, .int (qz x2)), (3, .long (ql x3))], [], _, 0, 0)
  have hF0 := qFr_rf [] [123] σ α
  have qx1_121 : 0 ≤ x1 ∧ x1 ≤ 5 → -1 ≤ α 121 (x1 : Int).toNat ∧ α 121 (x1 : Int).toNat ≤ 64 := fun h => hI.2.1 121 _ (show (x1 : Int).toNat < 6 by omega)
  have qx1_122 : 0 ≤ x1 ∧ x1 ≤ 5 → 0 ≤ α 122 (x1 : Int).toNat ∧ α 122 (x1 : Int).toNat ≤ 60 := fun h => hI.2.1 122 _ (show (x1 : Int).toNat < 6 by omega)
  refine qr_aload_n 1 rfl rfl rfl ?_
  refine qr_iload_n 2 rfl rfl rfl ?_
  refine qr_iload_n 3 rfl rfl rfl ?_
  refine qr_callN 6 rfl rfl rfl (sf_265_86x (d := d + 0) hI r1 r2) ?_
  rintro _ _ ⟨rfl, v1, rfl, hv1, hp2⟩
  show qr_W (qe L xs vb) (d + 3) qx_e264 _ (6, _, [.int (qz v1)], qw σ α κ ρ, 0, 0)
  refine qr_istore _ 8 rfl (by decide) rfl rfl ?_
  refine qr_iload 10 rfl rfl rfl ?_
  refine qr_if_ne 37 13 rfl rfl rfl (qrg hv1 (by decide) (by decide)) (fun h3 => ?_) (fun h3 => ?_)
  · skip
    refine qr_iload 39 rfl rfl rfl ?_
    refine qr_if_ne 46 42 rfl rfl rfl (qrg hv1 (by decide) (by decide)) (fun h4 => ?_) (fun h => False.elim (by omega))
    refine qr_iload 48 rfl rfl rfl ?_
    refine qr_retI rfl rfl (by decide) (by decide) ?_
    exact ⟨_, rfl, hI, hF0, v1, rfl, (qrg hv1 (by decide) (by decide)), (Or.inl ⟨by omega, rfl⟩)⟩
  · skip
    refine qr_aload_n 14 rfl rfl rfl ?_
    refine qr_get 17 rfl rfl rfl (by decide) rfl ?_
    refine qr_bipush 19 rfl (by decide) rfl ?_
    refine qr_iload_n 20 rfl rfl rfl ?_
    refine qr_imul 21 rfl rfl ?_
    refine qr_iload_n 22 rfl rfl rfl ?_
    refine qr_iadd 23 rfl rfl ?_
    refine qr_aload_n 24 rfl rfl rfl ?_
    refine qr_get 27 rfl rfl rfl (by decide) rfl ?_
    refine qr_iload_n 28 rfl rfl rfl ?_
    refine qr_iaload 29 rfl rfl (by omega) (by decide) rfl ?_
    refine qr_topI (fun v5 hv5 => ?_)
    have hs6 : (-1) ≤ v5 ∧ v5 ≤ 64 := by rw [hv5]; exact hI.2.1 121 _ (show _ < 6 by omega)
    refine qr_bipush 31 rfl (by decide) rfl ?_
    refine qr_isub 32 rfl rfl ?_
    refine qr_lload_n 33 rfl rfl rfl ?_
    refine qr_callN 36 rfl rfl rfl (sf_266x (d := d + 2) hI (by omega) r3) ?_
    rintro _ _ ⟨rfl, v7, rfl, hv7, hp8⟩
    show qr_W (qe L xs vb) (d + 3) qx_e264 _ (36, _, [.long (ql v7), .int (qz ((60 * x1) + x2)), .ref 123], qw σ α κ ρ, 0, 0)
    refine qr_lastore 37 rfl (by decide) rfl (by omega) (by decide) rfl ?_
    refine qy_wA (qw_r α 123 (qzu (α 123) (((60 * x1) + x2) : Int).toNat v7)) rfl (fun α9 e10 => ?_)
    have hI11 : qI σ α9 κ ρ := by rw [e10]; exact qI_r hI 123 _ rfl (show (-9223372036854775808) ≤ v7 ∧ v7 ≤ 9223372036854775807 by omega)
    have hF12 : qFr [] [123] σ α σ α9 := by rw [e10]; exact qFr_r hF0 123 _ (by decide)
    refine qr_iload 39 rfl rfl rfl ?_
    refine qr_if_ne 46 42 rfl rfl rfl (qrg hv1 (by decide) (by decide)) (fun h => False.elim (by omega)) (fun h13 => ?_)
    refine qr_iconst 43 rfl rfl ?_
    refine qr_goto 48 rfl rfl ?_
    refine qr_retI rfl rfl (by decide) (by decide) ?_
    exact ⟨_, rfl, hI11, hF12, 1, rfl, (by decide), (Or.inr (⟨by omega, (((congrFun e10 123).trans (qw_r_eq.trans (congrArg (fun f => qzu f (((60 * x1) + x2) : Int).toNat v7) rfl))).trans (by rw [hp8, hv5]))⟩))⟩

set_option maxHeartbeats 4000000 in
set_option maxRecDepth 20000 in
/-- OneRoofModel.element -/
theorem sf_267_86x {L : Nat} {xs : Nat → Int} {vb : Bool} {d : Nat} {σ α : Nat → Nat → Int} {κ : Nat → Option Nat} {ρ : Nat} {x1 : Int} {x2 : Int} (hI : qI σ α κ ρ) (r1 : (-2147483648) ≤ x1 ∧ x1 ≤ 2147483647) (r2 : (-2147483648) ≤ x2 ∧ x2 ≤ 2147483647) : qm_T (qe L xs vb) (d + 4) 267 [.ref 86, .int (qz x1), .int (qz x2)] (qw σ α κ ρ) (fun r w' => w' = qw σ α κ ρ ∧ ∃ v : Int, r = some (.long (ql v)) ∧ ((-9223372036854775808) ≤ v ∧ v ≤ 9223372036854775807) ∧ ((v = -9223372036854775808 ∧ ¬ (0 ≤ x1 ∧ x1 ≤ 5 ∧ 60 ≤ α 121 (x1 : Int).toNat ∧ 0 ≤ x2 ∧ x2 < α 122 (x1 : Int).toNat)) ∨ ((0 ≤ x1 ∧ x1 ≤ 5 ∧ 60 ≤ α 121 (x1 : Int).toNat ∧ 0 ≤ x2 ∧ x2 < α 122 (x1 : Int).toNat) ∧ v = α 123 (60 * x1 + x2 : Int).toNat))) := by
  refine qr_start (d := d + 3) qv_e267 (Nat.le_of_ble_eq_true rfl) ?_
  show qr_W (qe L xs vb) (d + 3) qx_e267 _ (0, [(0, .ref 86), (1, .int (qz x1)), (2, .int (qz x2))], [], _, 0, 0)
  have qx1_121 : 0 ≤ x1 ∧ x1 ≤ 5 → -1 ≤ α 121 (x1 : Int).toNat ∧ α 121 (x1 : Int).toNat ≤ 64 := fun h => hI.2.1 121 _ (show (x1 : Int).toNat < 6 by omega)
  have qx1_122 : 0 ≤ x1 ∧ x1 ≤ 5 → 0 ≤ α 122 (x1 : Int).toNat ∧ α 122 (x1 : Int).toNat ≤ 60 := fun h => hI.2.1 122 _ (show (x1 : Int).toNat < 6 by omega)
  refine qr_aload_n 1 rfl rfl rfl ?_
  refine qr_iload_n 2 rfl rfl rfl ?_
  refine qr_iload_n 3 rfl rfl rfl ?_
  refine qr_callN 6 rfl rfl rfl (sf_265_86x (d := d + 0) hI r1 r2) ?_
  rintro _ _ ⟨rfl, v1, rfl, hv1, hp2⟩
  show qr_W (qe L xs vb) (d + 3) qx_e267 _ (6, _, [.int (qz v1)], qw σ α κ ρ, 0, 0)
  refine qr_if_eq 15 9 rfl rfl rfl (qrg hv1 (by decide) (by decide)) (fun h3 => ?_) (fun h3 => ?_)
  · skip
    refine qr_aload_n 16 rfl rfl rfl ?_
    refine qr_get 19 rfl rfl rfl (by decide) rfl ?_
    refine qr_bipush 21 rfl (by decide) rfl ?_
    refine qr_iload_n 22 rfl rfl rfl ?_
    refine qr_imul 23 rfl rfl ?_
    refine qr_iload_n 24 rfl rfl rfl ?_
    refine qr_iadd 25 rfl rfl ?_
    refine qr_laload 26 rfl (by decide) rfl (by omega) (by decide) rfl ?_
    refine qr_topL (fun v4 hv4 => ?_)
    have hs5 : (-9223372036854775808) ≤ v4 ∧ v4 ≤ 9223372036854775807 := by rw [hv4]; exact hI.2.1 123 _ (show _ < 360 by omega)
    refine qr_retL rfl rfl (by decide) (by decide) ?_
    exact ⟨rfl, v4, rfl, hs5, by omega⟩
  · skip
    refine qr_ldc2 (-9223372036854775808) 12 rfl (by decide) rfl ?_
    refine qr_goto 26 rfl rfl ?_
    refine qr_retL rfl rfl (by decide) (by decide) ?_
    exact ⟨rfl, (-9223372036854775808), rfl, (by decide), by omega⟩

set_option maxHeartbeats 4000000 in
set_option maxRecDepth 20000 in
/-- OneRoofModel.shift -/
theorem sf_268_86x {L : Nat} {xs : Nat → Int} {vb : Bool} {d : Nat} {σ α : Nat → Nat → Int} {κ : Nat → Option Nat} {ρ : Nat} {x1 : Int} {x2 : Int} {x3 : Int} {x4 : Int} {x5 : Int} (hI : qI σ α κ ρ) (r1 : (-2147483648) ≤ x1 ∧ x1 ≤ 2147483647) (r2 : (-2147483648) ≤ x2 ∧ x2 ≤ 2147483647) (r3 : (-2147483648) ≤ x3 ∧ x3 ≤ 2147483647) (r4 : (-2147483648) ≤ x4 ∧ x4 ≤ 2147483647) (r5 : (-2147483648) ≤ x5 ∧ x5 ≤ 2147483647) : qm_T (qe L xs vb) (d + 3) 268 [.ref 86, .int (qz x1), .int (qz x2), .int (qz x3), .int (qz x4), .int (qz x5)] (qw σ α κ ρ) (fun r w' => ∃ α', w' = qw σ α' κ ρ ∧ qI σ α' κ ρ ∧ qFr [] [123, 124] σ α σ α' ∧ ∃ v : Int, r = some (.int (qz v)) ∧ ((-2147483648) ≤ v ∧ v ≤ 2147483647) ∧ (((v = -1 ∧ ¬ (0 ≤ x1 ∧ x1 ≤ 5 ∧ 0 ≤ x3 ∧ x3 ≤ 5)) ∧ α' 123 = α 123) ∨ ((v = -11 ∧ (0 ≤ x1 ∧ x1 ≤ 5 ∧ 0 ≤ x3 ∧ x3 ≤ 5) ∧ (α 121 (x1 : Int).toNat < 0 ∨ α 121 (x3 : Int).toNat < 0)) ∧ α' 123 = α 123) ∨ ((v = -12 ∧ (0 ≤ x1 ∧ x1 ≤ 5 ∧ 0 ≤ x3 ∧ x3 ≤ 5) ∧ ¬ (α 121 (x1 : Int).toNat < 0 ∨ α 121 (x3 : Int).toNat < 0) ∧ ¬ (60 ≤ α 121 (x1 : Int).toNat ∧ α 121 (x1 : Int).toNat = α 121 (x3 : Int).toNat)) ∧ α' 123 = α 123) ∨ ((v = -13 ∧ (0 ≤ x1 ∧ x1 ≤ 5 ∧ 0 ≤ x3 ∧ x3 ≤ 5) ∧ ¬ (α 121 (x1 : Int).toNat < 0 ∨ α 121 (x3 : Int).toNat < 0) ∧ (60 ≤ α 121 (x1 : Int).toNat ∧ α 121 (x1 : Int).toNat = α 121 (x3 : Int).toNat) ∧ ¬ (0 ≤ x2 ∧ 0 ≤ x5 ∧ x5 ≤ α 122 (x1 : Int).toNat ∧ x2 ≤ α 122 (x1 : Int).toNat - x5 ∧ 0 ≤ x4 ∧ x5 ≤ α 122 (x3 : Int).toNat ∧ x4 ≤ α 122 (x3 : Int).toNat - x5)) ∧ α' 123 = α 123) ∨ ((v = x5 ∧ (0 ≤ x1 ∧ x1 ≤ 5 ∧ 0 ≤ x3 ∧ x3 ≤ 5) ∧ ¬ (α 121 (x1 : Int).toNat < 0 ∨ α 121 (x3 : Int).toNat < 0) ∧ (60 ≤ α 121 (x1 : Int).toNat ∧ α 121 (x1 : Int).toNat = α 121 (x3 : Int).toNat) ∧ (0 ≤ x2 ∧ 0 ≤ x5 ∧ x5 ≤ α 122 (x1 : Int).toNat ∧ x2 ≤ α 122 (x1 : Int).toNat - x5 ∧ 0 ≤ x4 ∧ x5 ≤ α 122 (x3 : Int).toNat ∧ x4 ≤ α 122 (x3 : Int).toNat - x5)) ∧ α' 123 = va_cpy (α 123) (α 123) (60 * x1 + x2 : Int).toNat (60 * x3 + x4 : Int).toNat (x5 : Int).toNat))) := by
  refine qr_start (d := d + 2) qv_e268 (Nat.le_of_ble_eq_true rfl) ?_
  show qr_W (qe L xs vb) (d + 2) qx_e268 _ (0, [(0, .ref 86), (1, .int (qz x1)), (2, .int (qz x2)), (3, .int (qz x3)), (4, .int (qz x4)), (5, .int (qz x5))], [], _, 0, 0)
  have hF0 := qFr_rf [] [123, 124] σ α
  have qx1_121 : 0 ≤ x1 ∧ x1 ≤ 5 → -1 ≤ α 121 (x1 : Int).toNat ∧ α 121 (x1 : Int).toNat ≤ 64 := fun h => hI.2.1 121 _ (show (x1 : Int).toNat < 6 by omega)
  have qx1_122 : 0 ≤ x1 ∧ x1 ≤ 5 → 0 ≤ α 122 (x1 : Int).toNat ∧ α 122 (x1 : Int).toNat ≤ 60 := fun h => hI.2.1 122 _ (show (x1 : Int).toNat < 6 by omega)
  have qx3_121 : 0 ≤ x3 ∧ x3 ≤ 5 → -1 ≤ α 121 (x3 : Int).toNat ∧ α 121 (x3 : Int).toNat ≤ 64 := fun h => hI.2.1 121 _ (show (x3 : Int).toNat < 6 by omega)
  have qx3_122 : 0 ≤ x3 ∧ x3 ≤ 5 → 0 ≤ α 122 (x3 : Int).toNat ∧ α 122 (x3 : Int).toNat ≤ 60 := fun h => hI.2.1 122 _ (show (x3 : Int).toNat < 6 by omega)
  refine qr_iload_n 1 rfl rfl rfl ?_
  refine qr_callN 4 rfl rfl rfl (sf_178 (d := d + 0) hI r1) ?_
  rintro _ _ ⟨rfl, v1, rfl, hv1, hp2⟩
  show qr_W (qe L xs vb) (d + 2) qx_e268 _ (4, _, [.int (qz v1)], qw σ α κ ρ, 0, 0)
  refine qr_if_eq 14 7 rfl rfl rfl (qrg hv1 (by decide) (by decide)) (fun h3 => ?_) (fun h3 => ?_)
  · skip
    refine qr_iconst 15 rfl rfl ?_
    refine qr_retI rfl rfl (by decide) (by decide) ?_
    exact ⟨_, rfl, hI, hF0, (-1), rfl, (by decide), (Or.inl ⟨by omega, rfl⟩)⟩
  · skip
    refine qr_iload_n 8 rfl rfl rfl ?_
    refine qr_callN 11 rfl rfl rfl (sf_178 (d := d + 0) hI r3) ?_
    rintro _ _ ⟨rfl, v4, rfl, hv4, hp5⟩
    show qr_W (qe L xs vb) (d + 2) qx_e268 _ (11, _, [.int (qz v4)], qw σ α κ ρ, 0, 0)
    refine qr_if_ne 16 14 rfl rfl rfl (qrg hv4 (by decide) (by decide)) (fun h6 => ?_) (fun h6 => ?_)
    · skip
      refine qr_aload_n 17 rfl rfl rfl ?_
      refine qr_get 20 rfl rfl rfl (by decide) rfl ?_
      refine qr_iload_n 21 rfl rfl rfl ?_
      refine qr_iaload 22 rfl rfl (by omega) (by decide) rfl ?_
      refine qr_topI (fun v7 hv7 => ?_)
      have hs8 : (-1) ≤ v7 ∧ v7 ≤ 64 := by rw [hv7]; exact hI.2.1 121 _ (show _ < 6 by omega)
      refine qr_if_lt 34 25 rfl rfl rfl (qrg hs8 (by decide) (by decide)) (fun h9 => ?_) (fun h9 => ?_)
      · skip
        refine qr_bipush 36 rfl (by decide) rfl ?_
        refine qr_retI rfl rfl (by decide) (by decide) ?_
        exact ⟨_, rfl, hI, hF0, (-11), rfl, (by decide), (Or.inr (Or.inl ⟨by omega, rfl⟩))⟩
      · skip
        refine qr_aload_n 26 rfl rfl rfl ?_
        refine qr_get 29 rfl rfl rfl (by decide) rfl ?_
        refine qr_iload_n 30 rfl rfl rfl ?_
        refine qr_iaload 31 rfl rfl (by omega) (by decide) rfl ?_
        refine qr_topI (fun v10 hv10 => ?_)
        have hs11 : (-1) ≤ v10 ∧ v10 ≤ 64 := by rw [hv10]; exact hI.2.1 121 _ (show _ < 6 by omega)
        refine qr_if_ge 37 34 rfl rfl rfl (qrg hs11 (by decide) (by decide)) (fun h12 => ?_) (fun h12 => ?_)
        · skip
          refine qr_aload_n 38 rfl rfl rfl ?_
          refine qr_get 41 rfl rfl rfl (by decide) rfl ?_
          refine qr_iload_n 42 rfl rfl rfl ?_
          refine qr_iaload 43 rfl rfl (by omega) (by decide) rfl ?_
          refine qr_topI (fun v13 hv13 => ?_)
          have hs14 : (-1) ≤ v13 ∧ v13 ≤ 64 := by rw [hv13]; exact hI.2.1 121 _ (show _ < 6 by omega)
          refine qr_bipush 45 rfl (by decide) rfl ?_
          refine qr_icmp_lt 63 48 rfl rfl rfl (qrg hs14 (by decide) (by decide)) (by decide) (fun h15 => ?_) (fun h15 => ?_)
          · skip
            refine qr_bipush 65 rfl (by decide) rfl ?_
            refine qr_retI rfl rfl (by decide) (by decide) ?_
            exact ⟨_, rfl, hI, hF0, (-12), rfl, (by decide), (Or.inr (Or.inr (Or.inl ⟨by omega, rfl⟩)))⟩
          · skip
            refine qr_aload_n 49 rfl rfl rfl ?_
            refine qr_get 52 rfl rfl rfl (by decide) rfl ?_
            refine qr_iload_n 53 rfl rfl rfl ?_
            refine qr_iaload 54 rfl rfl (by omega) (by decide) rfl ?_
            refine qr_topI (fun v16 hv16 => ?_)
            have hs17 : (-1) ≤ v16 ∧ v16 ≤ 64 := by rw [hv16]; exact hI.2.1 121 _ (show _ < 6 by omega)
            refine qr_aload_n 55 rfl rfl rfl ?_
            refine qr_get 58 rfl rfl rfl (by decide) rfl ?_
            refine qr_iload_n 59 rfl rfl rfl ?_
            refine qr_iaload 60 rfl rfl (by omega) (by decide) rfl ?_
            refine qr_topI (fun v18 hv18 => ?_)
            have hs19 : (-1) ≤ v18 ∧ v18 ≤ 64 := by rw [hv18]; exact hI.2.1 121 _ (show _ < 6 by omega)
            refine qr_icmp_eq 66 63 rfl rfl rfl (qrg hs17 (by decide) (by decide)) (qrg hs19 (by decide) (by decide)) (fun h20 => ?_) (fun h20 => ?_)
            · skip
              refine qr_iload 68 rfl rfl rfl ?_
              refine qr_if_lt 107 71 rfl rfl rfl r5 (fun h21 => ?_) (fun h21 => ?_)
              · skip
                refine qr_bipush 109 rfl (by decide) rfl ?_
                refine qr_retI rfl rfl (by decide) (by decide) ?_
                exact ⟨_, rfl, hI, hF0, (-13), rfl, (by decide), (Or.inr (Or.inr (Or.inr (Or.inl ⟨by omega, rfl⟩))))⟩
              · skip
                refine qr_iload_n 72 rfl rfl rfl ?_
                refine qr_if_lt 107 75 rfl rfl rfl r2 (fun h22 => ?_) (fun h22 => ?_)
                · skip
                  refine qr_bipush 109 rfl (by decide) rfl ?_
                  refine qr_retI rfl rfl (by decide) (by decide) ?_
                  exact ⟨_, rfl, hI, hF0, (-13), rfl, (by decide), (Or.inr (Or.inr (Or.inr (Or.inl ⟨by omega, rfl⟩))))⟩
                · skip
                  refine qr_iload 77 rfl rfl rfl ?_
                  refine qr_if_lt 107 80 rfl rfl rfl r4 (fun h23 => ?_) (fun h23 => ?_)
                  · skip
                    refine qr_bipush 109 rfl (by decide) rfl ?_
                    refine qr_retI rfl rfl (by decide) (by decide) ?_
                    exact ⟨_, rfl, hI, hF0, (-13), rfl, (by decide), (Or.inr (Or.inr (Or.inr (Or.inl ⟨by omega, rfl⟩))))⟩
                  · skip
                    refine qr_iload_n 81 rfl rfl rfl ?_
                    refine qr_aload_n 82 rfl rfl rfl ?_
                    refine qr_get 85 rfl rfl rfl (by decide) rfl ?_
                    refine qr_iload_n 86 rfl rfl rfl ?_
                    refine qr_iaload 87 rfl rfl (by omega) (by decide) rfl ?_
                    refine qr_topI (fun v24 hv24 => ?_)
                    have hs25 : 0 ≤ v24 ∧ v24 ≤ 60 := by rw [hv24]; exact hI.2.1 122 _ (show _ < 6 by omega)
                    refine qr_iload 89 rfl rfl rfl ?_
                    refine qr_isub 90 rfl rfl ?_
                    refine qr_icmp_gt 107 93 rfl rfl rfl r2 (by omega) (fun h26 => ?_) (fun h26 => ?_)
                    · skip
                      refine qr_bipush 109 rfl (by decide) rfl ?_
                      refine qr_retI rfl rfl (by decide) (by decide) ?_
                      exact ⟨_, rfl, hI, hF0, (-13), rfl, (by decide), (Or.inr (Or.inr (Or.inr (Or.inl ⟨by omega, rfl⟩))))⟩
                    · skip
                      refine qr_iload 95 rfl rfl rfl ?_
                      refine qr_aload_n 96 rfl rfl rfl ?_
                      refine qr_get 99 rfl rfl rfl (by decide) rfl ?_
                      refine qr_iload_n 100 rfl rfl rfl ?_
                      refine qr_iaload 101 rfl rfl (by omega) (by decide) rfl ?_
                      refine qr_topI (fun v27 hv27 => ?_)
                      have hs28 : 0 ≤ v27 ∧ v27 ≤ 60 := by rw [hv27]; exact hI.2.1 122 _ (show _ < 6 by omega)
                      as_aux_lemma =>
                        refine qr_iload 103 rfl rfl rfl ?_
                        refine qr_isub 104 rfl rfl ?_
                        refine qr_icmp_le 110 107 rfl rfl rfl r4 (by omega) (fun h29 => ?_) (fun h29 => ?_)
                        · skip
                          refine qr_iconst 111 rfl rfl ?_
                          refine qr_istore _ 113 rfl (by decide) rfl rfl ?_
                          have hL4156 : ∀ (n : Nat) (ls : qm_L) (u4147 : Int) (α4149 : Nat → Nat → Int), 60 - u4147 < (n : Int) → qm_get ls 0 = some (.ref 86) → qm_get ls 1 = some (.int (qz x1)) → qm_get ls 2 = some (.int (qz x2)) → qm_get ls 3 = some (.int (qz x3)) → qm_get ls 4 = some (.int (qz x4)) → qm_get ls 5 = some (.int (qz x5)) → qm_get ls 6 = some (.int (qz u4147)) → (0 ≤ u4147 ∧ u4147 ≤ 60) → qI σ α4149 κ ρ → qFr [] [123, 124] σ α σ α4149 → α4149 123 = (α 123) → α4149 124 = (va_cpy (α 123) (α 124) (60 * x1 + x2 : Int).toNat 0 (u4147 : Int).toNat) → u4147 ≤ x5 → qr_W (qe L xs vb) (d + 2) qx_e268 (fun r w' => ∃ α', w' = qw σ α' κ ρ ∧ qI σ α' κ ρ ∧ qFr [] [123, 124] σ α σ α' ∧ ∃ v : Int, r = some (.int (qz v)) ∧ ((-2147483648) ≤ v ∧ v ≤ 2147483647) ∧ (((v = -1 ∧ ¬ (0 ≤ x1 ∧ x1 ≤ 5 ∧ 0 ≤ x3 ∧ x3 ≤ 5)) ∧ α' 123 = α 123) ∨ ((v = -11 ∧ (0 ≤ x1 ∧ x1 ≤ 5 ∧ 0 ≤ x3 ∧ x3 ≤ 5) ∧ (α 121 (x1 : Int).toNat < 0 ∨ α 121 (x3 : Int).toNat < 0)) ∧ α' 123 = α 123) ∨ ((v = -12 ∧ (0 ≤ x1 ∧ x1 ≤ 5 ∧ 0 ≤ x3 ∧ x3 ≤ 5) ∧ ¬ (α 121 (x1 : Int).toNat < 0 ∨ α 121 (x3 : Int).toNat < 0) ∧ ¬ (60 ≤ α 121 (x1 : Int).toNat ∧ α 121 (x1 : Int).toNat = α 121 (x3 : Int).toNat)) ∧ α' 123 = α 123) ∨ ((v = -13 ∧ (0 ≤ x1 ∧ x1 ≤ 5 ∧ 0 ≤ x3 ∧ x3 ≤ 5) ∧ ¬ (α 121 (x1 : Int).toNat < 0 ∨ α 121 (x3 : Int).toNat < 0) ∧ (60 ≤ α 121 (x1 : Int).toNat ∧ α 121 (x1 : Int).toNat = α 121 (x3 : Int).toNat) ∧ ¬ (0 ≤ x2 ∧ 0 ≤ x5 ∧ x5 ≤ α 122 (x1 : Int).toNat ∧ x2 ≤ α 122 (x1 : Int).toNat - x5 ∧ 0 ≤ x4 ∧ x5 ≤ α 122 (x3 : Int).toNat ∧ x4 ≤ α 122 (x3 : Int).toNat - x5)) ∧ α' 123 = α 123) ∨ ((v = x5 ∧ (0 ≤ x1 ∧ x1 ≤ 5 ∧ 0 ≤ x3 ∧ x3 ≤ 5) ∧ ¬ (α 121 (x1 : Int).toNat < 0 ∨ α 121 (x3 : Int).toNat < 0) ∧ (60 ≤ α 121 (x1 : Int).toNat ∧ α 121 (x1 : Int).toNat = α 121 (x3 : Int).toNat) ∧ (0 ≤ x2 ∧ 0 ≤ x5 ∧ x5 ≤ α 122 (x1 : Int).toNat ∧ x2 ≤ α 122 (x1 : Int).toNat - x5 ∧ 0 ≤ x4 ∧ x5 ≤ α 122 (x3 : Int).toNat ∧ x4 ≤ α 122 (x3 : Int).toNat - x5)) ∧ α' 123 = va_cpy (α 123) (α 123) (60 * x1 + x2 : Int).toNat (60 * x3 + x4 : Int).toNat (x5 : Int).toNat))) (113, ls, [], qw σ α4149 κ ρ, 0, 0) := by
                            intro n
                            induction n with
                            | zero => intro ls u4147 α4149 hm g4140 g4141 g4142 g4143 g4144 g4145 g4146 hf4152 hI4150 hF4151 hx4153 hx4154 hx4155; exact False.elim (by omega)
                            | succ n ih4157 =>
                              intro ls u4147 α4149 hm g4140 g4141 g4142 g4143 g4144 g4145 g4146 hf4152 hI4150 hF4151 hx4153 hx4154 hx4155
                              refine qr_iload 115 rfl g4146 rfl ?_
                              refine qr_iload 117 rfl g4145 rfl ?_
                              refine qr_icmp_ge 147 120 rfl rfl rfl (qrg hf4152 (by decide) (by decide)) r5 (fun h4158 => ?_) (fun h4158 => ?_)
                              · skip
                                refine qr_iconst 148 rfl rfl ?_
                                refine qr_istore _ 150 rfl (by decide) rfl rfl ?_
                                have hL4413 : ∀ (n : Nat) (ls : qm_L) (u4404 : Int) (α4406 : Nat → Nat → Int), 60 - u4404 < (n : Int) → qm_get ls 0 = some (.ref 86) → qm_get ls 3 = some (.int (qz x3)) → qm_get ls 4 = some (.int (qz x4)) → qm_get ls 5 = some (.int (qz x5)) → qm_get ls 6 = some (.int (qz u4404)) → (0 ≤ u4404 ∧ u4404 ≤ 60) → qI σ α4406 κ ρ → qFr [] [123, 124] σ α σ α4406 → α4406 124 = (va_cpy (α 123) (α 124) (60 * x1 + x2 : Int).toNat 0 (x5 : Int).toNat) → α4406 123 = (va_cpy (va_cpy (α 123) (α 124) (60 * x1 + x2 : Int).toNat 0 (x5 : Int).toNat) (α 123) 0 (60 * x3 + x4 : Int).toNat (u4404 : Int).toNat) → u4404 ≤ x5 → qr_W (qe L xs vb) (d + 2) qx_e268 (fun r w' => ∃ α', w' = qw σ α' κ ρ ∧ qI σ α' κ ρ ∧ qFr [] [123, 124] σ α σ α' ∧ ∃ v : Int, r = some (.int (qz v)) ∧ ((-2147483648) ≤ v ∧ v ≤ 2147483647) ∧ (((v = -1 ∧ ¬ (0 ≤ x1 ∧ x1 ≤ 5 ∧ 0 ≤ x3 ∧ x3 ≤ 5)) ∧ α' 123 = α 123) ∨ ((v = -11 ∧ (0 ≤ x1 ∧ x1 ≤ 5 ∧ 0 ≤ x3 ∧ x3 ≤ 5) ∧ (α 121 (x1 : Int).toNat < 0 ∨ α 121 (x3 : Int).toNat < 0)) ∧ α' 123 = α 123) ∨ ((v = -12 ∧ (0 ≤ x1 ∧ x1 ≤ 5 ∧ 0 ≤ x3 ∧ x3 ≤ 5) ∧ ¬ (α 121 (x1 : Int).toNat < 0 ∨ α 121 (x3 : Int).toNat < 0) ∧ ¬ (60 ≤ α 121 (x1 : Int).toNat ∧ α 121 (x1 : Int).toNat = α 121 (x3 : Int).toNat)) ∧ α' 123 = α 123) ∨ ((v = -13 ∧ (0 ≤ x1 ∧ x1 ≤ 5 ∧ 0 ≤ x3 ∧ x3 ≤ 5) ∧ ¬ (α 121 (x1 : Int).toNat < 0 ∨ α 121 (x3 : Int).toNat < 0) ∧ (60 ≤ α 121 (x1 : Int).toNat ∧ α 121 (x1 : Int).toNat = α 121 (x3 : Int).toNat) ∧ ¬ (0 ≤ x2 ∧ 0 ≤ x5 ∧ x5 ≤ α 122 (x1 : Int).toNat ∧ x2 ≤ α 122 (x1 : Int).toNat - x5 ∧ 0 ≤ x4 ∧ x5 ≤ α 122 (x3 : Int).toNat ∧ x4 ≤ α 122 (x3 : Int).toNat - x5)) ∧ α' 123 = α 123) ∨ ((v = x5 ∧ (0 ≤ x1 ∧ x1 ≤ 5 ∧ 0 ≤ x3 ∧ x3 ≤ 5) ∧ ¬ (α 121 (x1 : Int).toNat < 0 ∨ α 121 (x3 : Int).toNat < 0) ∧ (60 ≤ α 121 (x1 : Int).toNat ∧ α 121 (x1 : Int).toNat = α 121 (x3 : Int).toNat) ∧ (0 ≤ x2 ∧ 0 ≤ x5 ∧ x5 ≤ α 122 (x1 : Int).toNat ∧ x2 ≤ α 122 (x1 : Int).toNat - x5 ∧ 0 ≤ x4 ∧ x5 ≤ α 122 (x3 : Int).toNat ∧ x4 ≤ α 122 (x3 : Int).toNat - x5)) ∧ α' 123 = va_cpy (α 123) (α 123) (60 * x1 + x2 : Int).toNat (60 * x3 + x4 : Int).toNat (x5 : Int).toNat))) (150, ls, [], qw σ α4406 κ ρ, 0, 0) := by
                                  intro n
                                  induction n with
                                  | zero => intro ls u4404 α4406 hm g4399 g4400 g4401 g4402 g4403 hf4409 hI4407 hF4408 hx4410 hx4411 hx4412; exact False.elim (by omega)
                                  | succ n ih4414 =>
                                    intro ls u4404 α4406 hm g4399 g4400 g4401 g4402 g4403 hf4409 hI4407 hF4408 hx4410 hx4411 hx4412
                                    refine qr_iload 152 rfl g4403 rfl ?_
                                    refine qr_iload 154 rfl g4402 rfl ?_
                                    refine qr_icmp_ge 185 157 rfl rfl rfl (qrg hf4409 (by decide) (by decide)) r5 (fun h4415 => ?_) (fun h4415 => ?_)
                                    · skip
                                      refine qr_iload 187 rfl g4402 rfl ?_
                                      refine qr_retI rfl rfl (by decide) (by decide) ?_
                                      exact ⟨_, rfl, hI4407, hF4408, x5, rfl, r5, (Or.inr (Or.inr (Or.inr (Or.inr (⟨by omega, (hx4411.trans ((by congr 1; omega : _ = va_cpy (va_cpy (α 123) (α 124) (60 * x1 + x2 : Int).toNat 0 (x5 : Int).toNat) (α 123) 0 (60 * x3 + x4 : Int).toNat (x5 : Int).toNat).trans (qcpy_2 _ _ _ _ _)))⟩)))))⟩
                                    · skip
                                      refine qr_aload_n 158 rfl g4399 rfl ?_
                                      refine qr_get 161 rfl rfl rfl (by decide) rfl ?_
                                      refine qr_bipush 163 rfl (by decide) rfl ?_
                                      refine qr_iload_n 164 rfl g4400 rfl ?_
                                      refine qr_imul 165 rfl rfl ?_
                                      refine qr_iload 167 rfl g4401 rfl ?_
                                      refine qr_iadd 168 rfl rfl ?_
                                      refine qr_iload 170 rfl g4403 rfl ?_
                                      refine qr_iadd 171 rfl rfl ?_
                                      refine qr_aload_n 172 rfl g4399 rfl ?_
                                      refine qr_get 175 rfl rfl rfl (by decide) rfl ?_
                                      refine qr_iload 177 rfl g4403 rfl ?_
                                      refine qr_laload 178 rfl (by decide) rfl (by omega) (by decide) rfl ?_
                                      refine qr_topL (fun v4416 hv4416 => ?_)
                                      have hs4417 : (-9223372036854775808) ≤ v4416 ∧ v4416 ≤ 9223372036854775807 := by rw [hv4416]; exact hI4407.2.1 124 _ (show _ < 60 by omega)
                                      have hrv4416 : v4416 = (va_cpy (α 123) (α 124) (60 * x1 + x2 : Int).toNat 0 (x5 : Int).toNat) (u4404 : Int).toNat := hv4416.trans (congrFun hx4410 _)
                                      refine qr_lastore 179 rfl (by decide) rfl (by omega) (by decide) rfl ?_
                                      refine qy_wA (qw_r α4406 123 (qzu (α4406 123) ((((60 * x3) + x4) + u4404) : Int).toNat v4416)) rfl (fun α4418 e4419 => ?_)
                                      have hI4420 : qI σ α4418 κ ρ := by rw [e4419]; exact qI_r hI4407 123 _ rfl (show (-9223372036854775808) ≤ v4416 ∧ v4416 ≤ 9223372036854775807 by omega)
                                      have hF4421 : qFr [] [123, 124] σ α σ α4418 := by rw [e4419]; exact qFr_r hF4408 123 _ (by decide)
                                      refine qr_iinc _ 182 rfl g4403 (by decide) rfl rfl ?_
                                      refine qr_goto 150 rfl rfl ?_
                                      exact ih4414 _ (u4404 + 1) α4418 (by omega) (qm_gk g4399 (by decide) (Or.inl (by decide))) (qm_gk g4400 (by decide) (Or.inl (by decide))) (qm_gk g4401 (by decide) (Or.inl (by decide))) (qm_gk g4402 (by decide) (Or.inr rfl)) (qm_ge _ _ _) (by omega) hI4420 hF4421 ((congrFun e4419 124).trans ((qw_r_ne (by decide)).trans hx4410)) (((congrFun e4419 123).trans (qw_r_eq.trans (congrArg (fun f => qzu f ((((60 * x3) + x4) + u4404) : Int).toNat v4416) hx4411))).trans (qcpy_s (by omega) (by omega) (by rw [hv4416, hx4410]; congr 1; omega))) (by omega)
                                exact hL4413 ((60 - 0 + 1 : Int)).toNat _ 0 α4149 (by omega) (qm_gk g4140 (by decide) (Or.inl (by decide))) (qm_gk g4143 (by decide) (Or.inl (by decide))) (qm_gk g4144 (by decide) (Or.inl (by decide))) (qm_gk g4145 (by decide) (Or.inr rfl)) (qm_ge _ _ _) (by decide) hI4150 hF4151 (hx4154.trans (by congr 1; omega)) (hx4153.trans (qcpy_0 _ _ _ _)) (by omega)
                              · skip
                                refine qr_aload_n 121 rfl g4140 rfl ?_
                                refine qr_get 124 rfl rfl rfl (by decide) rfl ?_
                                refine qr_iload 126 rfl g4146 rfl ?_
                                refine qr_aload_n 127 rfl g4140 rfl ?_
                                refine qr_get 130 rfl rfl rfl (by decide) rfl ?_
                                refine qr_bipush 132 rfl (by decide) rfl ?_
                                refine qr_iload_n 133 rfl g4141 rfl ?_
                                refine qr_imul 134 rfl rfl ?_
                                refine qr_iload_n 135 rfl g4142 rfl ?_
                                refine qr_iadd 136 rfl rfl ?_
                                refine qr_iload 138 rfl g4146 rfl ?_
                                refine qr_iadd 139 rfl rfl ?_
                                refine qr_laload 140 rfl (by decide) rfl (by omega) (by decide) rfl ?_
                                refine qr_topL (fun v4422 hv4422 => ?_)
                                have hs4423 : (-9223372036854775808) ≤ v4422 ∧ v4422 ≤ 9223372036854775807 := by rw [hv4422]; exact hI4150.2.1 123 _ (show _ < 360 by omega)
                                refine qr_lastore 141 rfl (by decide) rfl (by omega) (by decide) rfl ?_
                                refine qy_wA (qw_r α4149 124 (qzu (α4149 124) (u4147 : Int).toNat v4422)) rfl (fun α4424 e4425 => ?_)
                                have hI4426 : qI σ α4424 κ ρ := by rw [e4425]; exact qI_r hI4150 124 _ rfl (show (-9223372036854775808) ≤ v4422 ∧ v4422 ≤ 9223372036854775807 by omega)
                                have hF4427 : qFr [] [123, 124] σ α σ α4424 := by rw [e4425]; exact qFr_r hF4151 124 _ (by decide)
                                refine qr_iinc _ 144 rfl g4146 (by decide) rfl rfl ?_
                                refine qr_goto 113 rfl rfl ?_
                                exact ih4157 _ (u4147 + 1) α4424 (by omega) (qm_gk g4140 (by decide) (Or.inl (by decide))) (qm_gk g4141 (by decide) (Or.inl (by decide))) (qm_gk g4142 (by decide) (Or.inl (by decide))) (qm_gk g4143 (by decide) (Or.inl (by decide))) (qm_gk g4144 (by decide) (Or.inl (by decide))) (qm_gk g4145 (by decide) (Or.inr rfl)) (qm_ge _ _ _) (by omega) hI4426 hF4427 ((congrFun e4425 123).trans ((qw_r_ne (by decide)).trans hx4153)) (((congrFun e4425 124).trans (qw_r_eq.trans (congrArg (fun f => qzu f (u4147 : Int).toNat v4422) hx4154))).trans (qcpy_s (by omega) (by omega) (by rw [hv4422, hx4153]; congr 1; omega))) (by omega)
                          exact hL4156 ((60 - 0 + 1 : Int)).toNat _ 0 α (by omega) rfl rfl rfl rfl rfl rfl rfl (by decide) hI hF0 rfl (rfl.trans (qcpy_0 _ _ _ _)) (by omega)
                        · skip
                          refine qr_bipush 109 rfl (by decide) rfl ?_
                          refine qr_retI rfl rfl (by decide) (by decide) ?_
                          exact ⟨_, rfl, hI, hF0, (-13), rfl, (by decide), (Or.inr (Or.inr (Or.inr (Or.inl ⟨by omega, rfl⟩))))⟩
            · skip
              refine qr_bipush 65 rfl (by decide) rfl ?_
              refine qr_retI rfl rfl (by decide) (by decide) ?_
              exact ⟨_, rfl, hI, hF0, (-12), rfl, (by decide), (Or.inr (Or.inr (Or.inl ⟨by omega, rfl⟩)))⟩
        · skip
          refine qr_bipush 36 rfl (by decide) rfl ?_
          refine qr_retI rfl rfl (by decide) (by decide) ?_
          exact ⟨_, rfl, hI, hF0, (-11), rfl, (by decide), (Or.inr (Or.inl ⟨by omega, rfl⟩))⟩
    · skip
      refine qr_iconst 15 rfl rfl ?_
      refine qr_retI rfl rfl (by decide) (by decide) ?_
      exact ⟨_, rfl, hI, hF0, (-1), rfl, (by decide), (Or.inl ⟨by omega, rfl⟩)⟩
end
section
/-! people from a row: f what stands at a place (b ahead of it), len how long the row is, i the first place; c how many came, s how many there are, L their lords, W their weights -/
def qpa (f : Nat → Int) (b j : Int) : Int := (qz (f (b + j).toNat)).toInt
def qpc (f : Nat → Int) (b len i c s : Int) : Prop := 0 ≤ i + 3 * c ∧ i + 3 * c + 2 < len ∧ s < 32 ∧ qfit s (qpa f b (i + 3 * c)) (qpa f b (i + 3 * c + 1)) (qpa f b (i + 3 * c + 2))
end
section
/-! what both sides hold alike -/
def qpg (s n h : Int) : Prop := (s = 6 ∧ h = -1) ∨ (s = 5 ∧ h = n ∧ 0 ≤ n ∧ n ≤ 59) ∨ (0 ≤ s ∧ s ≤ 4 ∧ h = 60 + s)
def qR (σ α : Nat → Nat → Int) : Prop := σ 17 6 = σ 86 6 ∧ σ 27 7 = σ 86 16 ∧ σ 34 7 = σ 86 24 ∧ α 18 = α 91 ∧ α 19 = α 92 ∧ α 21 = α 93 ∧ α 46 = α 122 ∧ (∀ d : Nat, d < 6 → qpg (α 45 d) (α 47 d) (α 121 d)) ∧ (∀ d i : Nat, d < 6 → (i : Int) < α 46 d → α 48 (60 * d + i) = α 123 (60 * d + i))
def qR_S : List (Nat × Nat) := [(17, 6), (27, 7), (34, 7), (86, 6), (86, 16), (86, 24)]
def qR_R : List Nat := [18, 19, 21, 45, 46, 47, 48, 91, 92, 93, 121, 122, 123]
theorem qR_fr {S : List (Nat × Nat)} {R : List Nat} {σ α σ' α' : Nat → Nat → Int} (hG : qFr S R σ α σ' α') (hs : qR_S.all (fun x => !S.contains x) = true) (hr : qR_R.all (fun x => !R.contains x) = true) (h : qR σ α) : qR σ' α' := by
  have es : ∀ a k, (a, k) ∈ qR_S → σ' a k = σ a k := fun a k hm => hG.1 a k (fun hn => by
    have h1 := List.all_eq_true.mp hs (a, k) hm
    rw [List.contains_iff_mem.mpr hn] at h1
    exact absurd h1 (by decide))
  have er : ∀ a, a ∈ qR_R → α' a = α a := fun a hm => hG.2 a (fun hn => by
    have h1 := List.all_eq_true.mp hr a hm
    rw [List.contains_iff_mem.mpr hn] at h1
    exact absurd h1 (by decide))
  unfold qR
  rw [es 17 6 (by decide), es 86 6 (by decide), es 27 7 (by decide), es 86 16 (by decide), es 34 7 (by decide), es 86 24 (by decide), er 18 (by decide), er 19 (by decide), er 21 (by decide), er 45 (by decide), er 46 (by decide), er 47 (by decide), er 48 (by decide), er 91 (by decide), er 92 (by decide), er 93 (by decide), er 121 (by decide), er 122 (by decide), er 123 (by decide)]
  exact h

set_option maxHeartbeats 4000000 in
theorem rl_road {σ α σ1 α1 σ2 α2 : Nat → Nat → Int} {κ : Nat → Option Nat} {ρ : Nat} {x1 x2 v1 v2 : Int} (hI : qI σ α κ ρ) (hR : qR σ α) (hG1 : qFr [] [21] σ α σ1 α1) (hG2 : qFr [] [93] σ1 α1 σ2 α2) (hx : ((v1 = -1 ∧ ¬ (0 ≤ x1 ∧ x1 < σ 17 6 ∧ 0 ≤ x2 ∧ x2 ≤ 3)) ∧ α1 21 = α 21) ∨ (((0 ≤ x1 ∧ x1 < σ 17 6 ∧ 0 ≤ x2 ∧ x2 ≤ 3) ∧ v1 = α 21 (x1 : Int).toNat) ∧ α1 21 = qzu (α 21) (x1 : Int).toNat (x2))) (hy : ((v2 = -1 ∧ ¬ (0 ≤ x1 ∧ x1 < σ1 86 6 ∧ 0 ≤ x2 ∧ x2 ≤ 3)) ∧ α2 93 = α1 93) ∨ (((0 ≤ x1 ∧ x1 < σ1 86 6 ∧ 0 ≤ x2 ∧ x2 ≤ 3) ∧ v2 = α1 93 (x1 : Int).toNat) ∧ α2 93 = qzu (α1 93) (x1 : Int).toNat (x2))) : v1 = v2 ∧ qR σ2 α2 := by
  obtain ⟨r1, r2, r3, r4, r5, r6, r7, r8, r9⟩ := hR
  have c17_6 := hG1.1 17 6 (by decide)
  have d17_6 := hG2.1 17 6 (by decide)
  have c27_7 := hG1.1 27 7 (by decide)
  have d27_7 := hG2.1 27 7 (by decide)
  have c34_7 := hG1.1 34 7 (by decide)
  have d34_7 := hG2.1 34 7 (by decide)
  have c86_6 := hG1.1 86 6 (by decide)
  have d86_6 := hG2.1 86 6 (by decide)
  have c86_16 := hG1.1 86 16 (by decide)
  have d86_16 := hG2.1 86 16 (by decide)
  have c86_24 := hG1.1 86 24 (by decide)
  have d86_24 := hG2.1 86 24 (by decide)
  have c18 := hG1.2 18 (by decide)
  have d18 := hG2.2 18 (by decide)
  have c19 := hG1.2 19 (by decide)
  have d19 := hG2.2 19 (by decide)
  have d21 := hG2.2 21 (by decide)
  have c45 := hG1.2 45 (by decide)
  have d45 := hG2.2 45 (by decide)
  have c46 := hG1.2 46 (by decide)
  have d46 := hG2.2 46 (by decide)
  have c47 := hG1.2 47 (by decide)
  have d47 := hG2.2 47 (by decide)
  have c48 := hG1.2 48 (by decide)
  have d48 := hG2.2 48 (by decide)
  have c91 := hG1.2 91 (by decide)
  have d91 := hG2.2 91 (by decide)
  have c92 := hG1.2 92 (by decide)
  have d92 := hG2.2 92 (by decide)
  have c93 := hG1.2 93 (by decide)
  have c121 := hG1.2 121 (by decide)
  have d121 := hG2.2 121 (by decide)
  have c122 := hG1.2 122 (by decide)
  have d122 := hG2.2 122 (by decide)
  have c123 := hG1.2 123 (by decide)
  have d123 := hG2.2 123 (by decide)
  rcases hx with ⟨xn0, x21⟩ | ⟨xn0, x21⟩
  · rcases hy with ⟨yn0, y93⟩ | ⟨yn0, y93⟩
    · skip
      have hv : v1 = v2 := by omega
      refine ⟨hv, by omega, by omega, by omega, ?_, ?_, ?_, ?_, ?_, ?_⟩
      · exact by rw [d18, c18, d91, c91, r4]
      · exact by rw [d19, c19, d92, c92, r5]
      · exact by rw [d21, x21, y93, c93, r6]
      · exact by rw [d46, c46, d122, c122, r7]
      · exact (by rw [d45, c45, d47, c47, d121, c121]; exact r8)
      · exact (by rw [d46, c46, d48, c48, d123, c123]; exact r9)
    · exact False.elim (by omega)
  · rcases hy with ⟨yn0, y93⟩ | ⟨yn0, y93⟩
    · exact False.elim (by omega)
    · skip
      have e93 : α 21 (x1 : Int).toNat = α 93 (x1 : Int).toNat := by rw [r6]
      rw [c93] at yn0
      have hv : v1 = v2 := by omega
      refine ⟨hv, by omega, by omega, by omega, ?_, ?_, ?_, ?_, ?_, ?_⟩
      · exact by rw [d18, c18, d91, c91, r4]
      · exact by rw [d19, c19, d92, c92, r5]
      · exact by rw [d21, x21, y93, c93, r6]
      · exact by rw [d46, c46, d122, c122, r7]
      · exact (by rw [d45, c45, d47, c47, d121, c121]; exact r8)
      · exact (by rw [d46, c46, d48, c48, d123, c123]; exact r9)

set_option maxHeartbeats 4000000 in
theorem rl_keep {σ α σ1 α1 σ2 α2 : Nat → Nat → Int} {κ : Nat → Option Nat} {ρ : Nat} {x1 x2 v1 v2 : Int} (hI : qI σ α κ ρ) (hR : qR σ α) (hG1 : qFr [] [45, 46, 47] σ α σ1 α1) (hG2 : qFr [] [121, 122] σ1 α1 σ2 α2) (hx : ((v1 = -1 ∧ ¬ (0 ≤ x1 ∧ x1 ≤ 5 ∧ (x2 = -1 ∨ (0 ≤ x2 ∧ x2 < σ 34 7)))) ∧ α1 45 = α 45 ∧ α1 46 = α 46 ∧ α1 47 = α 47) ∨ ((v1 = 1 ∧ (0 ≤ x1 ∧ x1 ≤ 5 ∧ (x2 = -1 ∨ (0 ≤ x2 ∧ x2 < σ 34 7)))) ∧ α1 45 = qzu (α 45) (x1 : Int).toNat (if x2 < 0 then 6 else 5) ∧ α1 46 = qzu (α 46) (x1 : Int).toNat (0) ∧ α1 47 = qzu (α 47) (x1 : Int).toNat (x2))) (hy : ((v2 = -1 ∧ ¬ (0 ≤ x1 ∧ x1 ≤ 5 ∧ (x2 = -1 ∨ (0 ≤ x2 ∧ x2 < σ1 86 24)))) ∧ α2 121 = α1 121 ∧ α2 122 = α1 122) ∨ ((v2 = 1 ∧ (0 ≤ x1 ∧ x1 ≤ 5 ∧ (x2 = -1 ∨ (0 ≤ x2 ∧ x2 < σ1 86 24)))) ∧ α2 121 = qzu (α1 121) (x1 : Int).toNat (x2) ∧ α2 122 = qzu (α1 122) (x1 : Int).toNat (0))) : v1 = v2 ∧ qR σ2 α2 := by
  obtain ⟨r1, r2, r3, r4, r5, r6, r7, r8, r9⟩ := hR
  have c17_6 := hG1.1 17 6 (by decide)
  have d17_6 := hG2.1 17 6 (by decide)
  have c27_7 := hG1.1 27 7 (by decide)
  have d27_7 := hG2.1 27 7 (by decide)
  have c34_7 := hG1.1 34 7 (by decide)
  have d34_7 := hG2.1 34 7 (by decide)
  have c86_6 := hG1.1 86 6 (by decide)
  have d86_6 := hG2.1 86 6 (by decide)
  have c86_16 := hG1.1 86 16 (by decide)
  have d86_16 := hG2.1 86 16 (by decide)
  have c86_24 := hG1.1 86 24 (by decide)
  have d86_24 := hG2.1 86 24 (by decide)
  have c18 := hG1.2 18 (by decide)
  have d18 := hG2.2 18 (by decide)
  have c19 := hG1.2 19 (by decide)
  have d19 := hG2.2 19 (by decide)
  have c21 := hG1.2 21 (by decide)
  have d21 := hG2.2 21 (by decide)
  have d45 := hG2.2 45 (by decide)
  have d46 := hG2.2 46 (by decide)
  have d47 := hG2.2 47 (by decide)
  have c48 := hG1.2 48 (by decide)
  have d48 := hG2.2 48 (by decide)
  have c91 := hG1.2 91 (by decide)
  have d91 := hG2.2 91 (by decide)
  have c92 := hG1.2 92 (by decide)
  have d92 := hG2.2 92 (by decide)
  have c93 := hG1.2 93 (by decide)
  have d93 := hG2.2 93 (by decide)
  have c121 := hG1.2 121 (by decide)
  have c122 := hG1.2 122 (by decide)
  have c123 := hG1.2 123 (by decide)
  have d123 := hG2.2 123 (by decide)
  have hs : 0 ≤ σ 34 7 ∧ σ 34 7 ≤ 60 := hI.1 34 7
  rcases hx with ⟨xn0, x45, x46, x47⟩ | ⟨xn0, x45, x46, x47⟩
  · rcases hy with ⟨yn0, y121, y122⟩ | ⟨yn0, y121, y122⟩
    · skip
      have hv : v1 = v2 := by omega
      refine ⟨hv, by omega, by omega, by omega, ?_, ?_, ?_, ?_, ?_, ?_⟩
      · exact by rw [d18, c18, d91, c91, r4]
      · exact by rw [d19, c19, d92, c92, r5]
      · exact by rw [d21, c21, d93, c93, r6]
      · exact by rw [d46, x46, y122, c122, r7]
      · exact (by rw [d45, x45, d47, x47, y121, c121]; exact r8)
      · exact (by rw [d46, x46, d48, c48, d123, c123]; exact r9)
    · exact False.elim (by omega)
  · rcases hy with ⟨yn0, y121, y122⟩ | ⟨yn0, y121, y122⟩
    · exact False.elim (by omega)
    · skip
      have hv : v1 = v2 := by omega
      refine ⟨hv, by omega, by omega, by omega, ?_, ?_, ?_, ?_, ?_, ?_⟩
      · exact by rw [d18, c18, d91, c91, r4]
      · exact by rw [d19, c19, d92, c92, r5]
      · exact by rw [d21, c21, d93, c93, r6]
      · exact by rw [d46, x46, y122, c122, r7]
      · intro d hd
        have h8 := r8 d hd
        rw [d45, x45, d47, x47, y121, c121]
        unfold qzu
        by_cases e : d = (x1 : Int).toNat
        · rw [if_pos e, if_pos e, if_pos e]
          unfold qpg
          by_cases e2 : x2 < 0
          · rw [if_pos e2]; omega
          · rw [if_neg e2]; omega
        · rw [if_neg e, if_neg e, if_neg e]
          exact h8
      · intro d i hd hi
        rw [d46, x46] at hi
        rw [d48, c48, d123, c123]
        unfold qzu at hi
        by_cases e : d = (x1 : Int).toNat
        · rw [if_pos e] at hi; omega
        · rw [if_neg e] at hi; exact r9 d i hd hi

set_option maxHeartbeats 4000000 in
theorem rl_row {σ α σ1 α1 σ2 α2 : Nat → Nat → Int} {κ : Nat → Option Nat} {ρ : Nat} {x1 x2 x3 v1 v2 : Int} (hI : qI σ α κ ρ) (hR : qR σ α) (hG1 : qFr [] [45, 46, 48] σ α σ1 α1) (hG2 : qFr [] [121, 122, 123] σ1 α1 σ2 α2) (hx : ((v1 = -1 ∧ ¬ (0 ≤ x1 ∧ x1 ≤ 5 ∧ 0 ≤ x2 ∧ x2 ≤ 4 ∧ x3 ≤ 60)) ∧ α1 45 = α 45 ∧ α1 46 = α 46 ∧ α1 48 = α 48) ∨ ((v1 = -14 ∧ (0 ≤ x1 ∧ x1 ≤ 5 ∧ 0 ≤ x2 ∧ x2 ≤ 4 ∧ x3 ≤ 60) ∧ x3 < 0) ∧ α1 45 = α 45 ∧ α1 46 = α 46 ∧ α1 48 = α 48) ∨ ((v1 = 1 ∧ (0 ≤ x1 ∧ x1 ≤ 5 ∧ 0 ≤ x2 ∧ x2 ≤ 4 ∧ x3 ≤ 60) ∧ 0 ≤ x3) ∧ α1 45 = qzu (α 45) (x1 : Int).toNat (x2) ∧ α1 46 = qzu (α 46) (x1 : Int).toNat (x3) ∧ α1 48 = qzfl (α 48) (x1 * 60 : Int).toNat (x3 : Int).toNat)) (hy : ((v2 = -1 ∧ ¬ (0 ≤ x1 ∧ x1 ≤ 5 ∧ 0 ≤ x2 ∧ x2 ≤ 4 ∧ x3 ≤ 60)) ∧ α2 121 = α1 121 ∧ α2 122 = α1 122 ∧ α2 123 = α1 123) ∨ ((v2 = -14 ∧ (0 ≤ x1 ∧ x1 ≤ 5 ∧ 0 ≤ x2 ∧ x2 ≤ 4 ∧ x3 ≤ 60) ∧ x3 < 0) ∧ α2 121 = α1 121 ∧ α2 122 = α1 122 ∧ α2 123 = α1 123) ∨ ((v2 = 1 ∧ (0 ≤ x1 ∧ x1 ≤ 5 ∧ 0 ≤ x2 ∧ x2 ≤ 4 ∧ x3 ≤ 60) ∧ 0 ≤ x3) ∧ α2 121 = qzu (α1 121) (x1 : Int).toNat (60 + x2) ∧ α2 122 = qzu (α1 122) (x1 : Int).toNat (x3) ∧ α2 123 = qzfl (α1 123) (60 * x1 : Int).toNat 60)) : v1 = v2 ∧ qR σ2 α2 := by
  obtain ⟨r1, r2, r3, r4, r5, r6, r7, r8, r9⟩ := hR
  have c17_6 := hG1.1 17 6 (by decide)
  have d17_6 := hG2.1 17 6 (by decide)
  have c27_7 := hG1.1 27 7 (by decide)
  have d27_7 := hG2.1 27 7 (by decide)
  have c34_7 := hG1.1 34 7 (by decide)
  have d34_7 := hG2.1 34 7 (by decide)
  have c86_6 := hG1.1 86 6 (by decide)
  have d86_6 := hG2.1 86 6 (by decide)
  have c86_16 := hG1.1 86 16 (by decide)
  have d86_16 := hG2.1 86 16 (by decide)
  have c86_24 := hG1.1 86 24 (by decide)
  have d86_24 := hG2.1 86 24 (by decide)
  have c18 := hG1.2 18 (by decide)
  have d18 := hG2.2 18 (by decide)
  have c19 := hG1.2 19 (by decide)
  have d19 := hG2.2 19 (by decide)
  have c21 := hG1.2 21 (by decide)
  have d21 := hG2.2 21 (by decide)
  have d45 := hG2.2 45 (by decide)
  have d46 := hG2.2 46 (by decide)
  have c47 := hG1.2 47 (by decide)
  have d47 := hG2.2 47 (by decide)
  have d48 := hG2.2 48 (by decide)
  have c91 := hG1.2 91 (by decide)
  have d91 := hG2.2 91 (by decide)
  have c92 := hG1.2 92 (by decide)
  have d92 := hG2.2 92 (by decide)
  have c93 := hG1.2 93 (by decide)
  have d93 := hG2.2 93 (by decide)
  have c121 := hG1.2 121 (by decide)
  have c122 := hG1.2 122 (by decide)
  have c123 := hG1.2 123 (by decide)
  rcases hx with ⟨xn0, x45, x46, x48⟩ | ⟨xn0, x45, x46, x48⟩ | ⟨xn0, x45, x46, x48⟩
  · rcases hy with ⟨yn0, y121, y122, y123⟩ | ⟨yn0, y121, y122, y123⟩ | ⟨yn0, y121, y122, y123⟩
    · skip
      have hv : v1 = v2 := by omega
      refine ⟨hv, by omega, by omega, by omega, ?_, ?_, ?_, ?_, ?_, ?_⟩
      · exact by rw [d18, c18, d91, c91, r4]
      · exact by rw [d19, c19, d92, c92, r5]
      · exact by rw [d21, c21, d93, c93, r6]
      · exact by rw [d46, x46, y122, c122, r7]
      · exact (by rw [d45, x45, d47, c47, y121, c121]; exact r8)
      · exact (by rw [d46, x46, d48, x48, y123, c123]; exact r9)
    · exact False.elim (by omega)
    · exact False.elim (by omega)
  · rcases hy with ⟨yn0, y121, y122, y123⟩ | ⟨yn0, y121, y122, y123⟩ | ⟨yn0, y121, y122, y123⟩
    · exact False.elim (by omega)
    · skip
      have hv : v1 = v2 := by omega
      refine ⟨hv, by omega, by omega, by omega, ?_, ?_, ?_, ?_, ?_, ?_⟩
      · exact by rw [d18, c18, d91, c91, r4]
      · exact by rw [d19, c19, d92, c92, r5]
      · exact by rw [d21, c21, d93, c93, r6]
      · exact by rw [d46, x46, y122, c122, r7]
      · exact (by rw [d45, x45, d47, c47, y121, c121]; exact r8)
      · exact (by rw [d46, x46, d48, x48, y123, c123]; exact r9)
    · exact False.elim (by omega)
  · rcases hy with ⟨yn0, y121, y122, y123⟩ | ⟨yn0, y121, y122, y123⟩ | ⟨yn0, y121, y122, y123⟩
    · exact False.elim (by omega)
    · exact False.elim (by omega)
    · skip
      have hv : v1 = v2 := by omega
      refine ⟨hv, by omega, by omega, by omega, ?_, ?_, ?_, ?_, ?_, ?_⟩
      · exact by rw [d18, c18, d91, c91, r4]
      · exact by rw [d19, c19, d92, c92, r5]
      · exact by rw [d21, c21, d93, c93, r6]
      · exact by rw [d46, x46, y122, c122, r7]
      · intro d hd
        have h8 := r8 d hd
        rw [d45, x45, d47, c47, y121, c121]
        unfold qzu
        by_cases e : d = (x1 : Int).toNat
        · rw [if_pos e, if_pos e]
          unfold qpg
          omega
        · rw [if_neg e, if_neg e]
          exact h8
      · intro d i hd hi
        have hl : 0 ≤ α 46 d ∧ α 46 d ≤ 60 := hI.2.1 46 d hd
        rw [d46, x46] at hi
        rw [d48, x48, y123, c123]
        unfold qzu at hi
        unfold qzfl
        by_cases e : d = (x1 : Int).toNat
        · rw [if_pos e] at hi
          rw [if_pos (by omega), if_pos (by omega)]
        · rw [if_neg e] at hi
          rw [if_neg (by omega), if_neg (by omega)]
          exact r9 d i hd hi

set_option maxHeartbeats 4000000 in
theorem rl_put {σ α σ1 α1 σ2 α2 : Nat → Nat → Int} {κ : Nat → Option Nat} {ρ : Nat} {x1 x2 x3 v1 v2 : Int} (hI : qI σ α κ ρ) (hR : qR σ α) (hG1 : qFr [] [48] σ α σ1 α1) (hG2 : qFr [] [123] σ1 α1 σ2 α2) (hx : ((v1 = -1 ∧ ¬ (0 ≤ x1 ∧ x1 ≤ 5)) ∧ α1 48 = α 48) ∨ (((0 ≤ x1 ∧ x1 ≤ 5) ∧ ¬ v1 = 0 ∧ ((v1 = -11 ∧ α 45 (x1 : Int).toNat = 6) ∨ (v1 = -12 ∧ α 45 (x1 : Int).toNat = 5) ∨ (v1 = -13 ∧ α 45 (x1 : Int).toNat ≤ 4 ∧ ¬ (0 ≤ x2 ∧ x2 < α 46 (x1 : Int).toNat)) ∨ (v1 = 0 ∧ α 45 (x1 : Int).toNat ≤ 4 ∧ 0 ≤ x2 ∧ x2 < α 46 (x1 : Int).toNat))) ∧ α1 48 = α 48) ∨ ((v1 = 1 ∧ (0 ≤ x1 ∧ x1 ≤ 5) ∧ α 45 (x1 : Int).toNat ≤ 4 ∧ 0 ≤ x2 ∧ x2 < α 46 (x1 : Int).toNat) ∧ α1 48 = qzu (α 48) (x1 * 60 + x2 : Int).toNat (qnar (α 45 (x1 : Int).toNat) x3))) (hy : ((¬ v2 = 0 ∧ ((v2 = -1 ∧ ¬ (0 ≤ x1 ∧ x1 ≤ 5)) ∨ (v2 = -11 ∧ 0 ≤ x1 ∧ x1 ≤ 5 ∧ α1 121 (x1 : Int).toNat < 0) ∨ (v2 = -12 ∧ 0 ≤ x1 ∧ x1 ≤ 5 ∧ 0 ≤ α1 121 (x1 : Int).toNat ∧ α1 121 (x1 : Int).toNat < 60) ∨ (v2 = -13 ∧ 0 ≤ x1 ∧ x1 ≤ 5 ∧ 60 ≤ α1 121 (x1 : Int).toNat ∧ ¬ (0 ≤ x2 ∧ x2 < α1 122 (x1 : Int).toNat)) ∨ (v2 = 0 ∧ 0 ≤ x1 ∧ x1 ≤ 5 ∧ 60 ≤ α1 121 (x1 : Int).toNat ∧ 0 ≤ x2 ∧ x2 < α1 122 (x1 : Int).toNat))) ∧ α2 123 = α1 123) ∨ ((v2 = 1 ∧ (0 ≤ x1 ∧ x1 ≤ 5) ∧ 60 ≤ α1 121 (x1 : Int).toNat ∧ 0 ≤ x2 ∧ x2 < α1 122 (x1 : Int).toNat) ∧ α2 123 = qzu (α1 123) (60 * x1 + x2 : Int).toNat (qnar (α1 121 (x1 : Int).toNat - 60) x3))) : v1 = v2 ∧ qR σ2 α2 := by
  obtain ⟨r1, r2, r3, r4, r5, r6, r7, r8, r9⟩ := hR
  have c17_6 := hG1.1 17 6 (by decide)
  have d17_6 := hG2.1 17 6 (by decide)
  have c27_7 := hG1.1 27 7 (by decide)
  have d27_7 := hG2.1 27 7 (by decide)
  have c34_7 := hG1.1 34 7 (by decide)
  have d34_7 := hG2.1 34 7 (by decide)
  have c86_6 := hG1.1 86 6 (by decide)
  have d86_6 := hG2.1 86 6 (by decide)
  have c86_16 := hG1.1 86 16 (by decide)
  have d86_16 := hG2.1 86 16 (by decide)
  have c86_24 := hG1.1 86 24 (by decide)
  have d86_24 := hG2.1 86 24 (by decide)
  have c18 := hG1.2 18 (by decide)
  have d18 := hG2.2 18 (by decide)
  have c19 := hG1.2 19 (by decide)
  have d19 := hG2.2 19 (by decide)
  have c21 := hG1.2 21 (by decide)
  have d21 := hG2.2 21 (by decide)
  have c45 := hG1.2 45 (by decide)
  have d45 := hG2.2 45 (by decide)
  have c46 := hG1.2 46 (by decide)
  have d46 := hG2.2 46 (by decide)
  have c47 := hG1.2 47 (by decide)
  have d47 := hG2.2 47 (by decide)
  have d48 := hG2.2 48 (by decide)
  have c91 := hG1.2 91 (by decide)
  have d91 := hG2.2 91 (by decide)
  have c92 := hG1.2 92 (by decide)
  have d92 := hG2.2 92 (by decide)
  have c93 := hG1.2 93 (by decide)
  have d93 := hG2.2 93 (by decide)
  have c121 := hG1.2 121 (by decide)
  have d121 := hG2.2 121 (by decide)
  have c122 := hG1.2 122 (by decide)
  have d122 := hG2.2 122 (by decide)
  have c123 := hG1.2 123 (by decide)
  have hb : 0 ≤ x1 ∧ x1 ≤ 5 → qpg (α 45 (x1 : Int).toNat) (α 47 (x1 : Int).toNat) (α 121 (x1 : Int).toNat) := fun h => r8 _ (by omega)
  have hl : α 46 (x1 : Int).toNat = α 122 (x1 : Int).toNat := by rw [r7]
  rw [c121, c122] at hy
  unfold qpg at hb
  rcases hx with ⟨xn0, x48⟩ | ⟨xn0, x48⟩ | ⟨xn0, x48⟩
  · rcases hy with ⟨yn0, y123⟩ | ⟨yn0, y123⟩
    · skip
      have hv : v1 = v2 := by omega
      refine ⟨hv, by omega, by omega, by omega, ?_, ?_, ?_, ?_, ?_, ?_⟩
      · exact by rw [d18, c18, d91, c91, r4]
      · exact by rw [d19, c19, d92, c92, r5]
      · exact by rw [d21, c21, d93, c93, r6]
      · exact by rw [d46, c46, d122, c122, r7]
      · exact (by rw [d45, c45, d47, c47, d121, c121]; exact r8)
      · exact (by rw [d46, c46, d48, x48, y123, c123]; exact r9)
    · exact False.elim (by omega)
  · rcases hy with ⟨yn0, y123⟩ | ⟨yn0, y123⟩
    · skip
      have hv : v1 = v2 := by omega
      refine ⟨hv, by omega, by omega, by omega, ?_, ?_, ?_, ?_, ?_, ?_⟩
      · exact by rw [d18, c18, d91, c91, r4]
      · exact by rw [d19, c19, d92, c92, r5]
      · exact by rw [d21, c21, d93, c93, r6]
      · exact by rw [d46, c46, d122, c122, r7]
      · exact (by rw [d45, c45, d47, c47, d121, c121]; exact r8)
      · exact (by rw [d46, c46, d48, x48, y123, c123]; exact r9)
    · exact False.elim (by omega)
  · rcases hy with ⟨yn0, y123⟩ | ⟨yn0, y123⟩
    · exact False.elim (by omega)
    · skip
      have hv : v1 = v2 := by omega
      refine ⟨hv, by omega, by omega, by omega, ?_, ?_, ?_, ?_, ?_, ?_⟩
      · exact by rw [d18, c18, d91, c91, r4]
      · exact by rw [d19, c19, d92, c92, r5]
      · exact by rw [d21, c21, d93, c93, r6]
      · exact by rw [d46, c46, d122, c122, r7]
      · exact (by rw [d45, c45, d47, c47, d121, c121]; exact r8)
      · intro d i hd hi
        have hl2 : 0 ≤ α 46 d ∧ α 46 d ≤ 60 := hI.2.1 46 d hd
        have hl3 : 0 ≤ α 46 (x1 : Int).toNat ∧ α 46 (x1 : Int).toNat ≤ 60 := hI.2.1 46 _ (show (x1 : Int).toNat < 6 by omega)
        rw [d46, c46] at hi
        have h9 := r9 d i hd hi
        rw [d48, x48, y123, c123, show α 121 (x1 : Int).toNat - 60 = α 45 (x1 : Int).toNat by omega]
        unfold qzu
        by_cases e : 60 * d + i = (x1 * 60 + x2 : Int).toNat
        · rw [if_pos e, if_pos (by omega)]
        · rw [if_neg e, if_neg (by omega)]
          exact h9

set_option maxHeartbeats 4000000 in
theorem rl_element {σ α : Nat → Nat → Int} {κ : Nat → Option Nat} {ρ : Nat} {x1 x2 v1 v2 : Int} (hI : qI σ α κ ρ) (hR : qR σ α) (hx : ((v1 = -9223372036854775808 ∧ ¬ (0 ≤ x1 ∧ x1 ≤ 5 ∧ α 45 (x1 : Int).toNat ≤ 4 ∧ 0 ≤ x2 ∧ x2 < α 46 (x1 : Int).toNat)) ∨ ((0 ≤ x1 ∧ x1 ≤ 5 ∧ α 45 (x1 : Int).toNat ≤ 4 ∧ 0 ≤ x2 ∧ x2 < α 46 (x1 : Int).toNat) ∧ v1 = α 48 (x1 * 60 + x2 : Int).toNat))) (hy : ((v2 = -9223372036854775808 ∧ ¬ (0 ≤ x1 ∧ x1 ≤ 5 ∧ 60 ≤ α 121 (x1 : Int).toNat ∧ 0 ≤ x2 ∧ x2 < α 122 (x1 : Int).toNat)) ∨ ((0 ≤ x1 ∧ x1 ≤ 5 ∧ 60 ≤ α 121 (x1 : Int).toNat ∧ 0 ≤ x2 ∧ x2 < α 122 (x1 : Int).toNat) ∧ v2 = α 123 (60 * x1 + x2 : Int).toNat))) : v1 = v2 := by
  obtain ⟨r1, r2, r3, r4, r5, r6, r7, r8, r9⟩ := hR
  have hb : 0 ≤ x1 ∧ x1 ≤ 5 → qpg (α 45 (x1 : Int).toNat) (α 47 (x1 : Int).toNat) (α 121 (x1 : Int).toNat) := fun h => r8 _ (by omega)
  have hl : α 46 (x1 : Int).toNat = α 122 (x1 : Int).toNat := by rw [r7]
  unfold qpg at hb
  rcases hx with ⟨h1, h2⟩ | ⟨h1, h2⟩
  · rcases hy with ⟨k1, k2⟩ | ⟨k1, k2⟩
    · rw [h1, k1]
    · exact False.elim (by omega)
  · rcases hy with ⟨k1, k2⟩ | ⟨k1, k2⟩
    · exact False.elim (by omega)
    · have h9 := r9 (x1 : Int).toNat (x2 : Int).toNat (by omega) (by omega)
      rw [h2, k2, show (x1 * 60 + x2 : Int).toNat = 60 * (x1 : Int).toNat + (x2 : Int).toNat by omega, show (60 * x1 + x2 : Int).toNat = 60 * (x1 : Int).toNat + (x2 : Int).toNat by omega]
      exact h9

set_option maxHeartbeats 4000000 in
theorem rl_shift {σ α σ1 α1 σ2 α2 : Nat → Nat → Int} {κ : Nat → Option Nat} {ρ : Nat} {x1 x2 x3 x4 x5 v1 v2 : Int} (hI : qI σ α κ ρ) (hR : qR σ α) (hG1 : qFr [] [48] σ α σ1 α1) (hG2 : qFr [] [123, 124] σ1 α1 σ2 α2) (hx : ((v1 = -1 ∧ ¬ (0 ≤ x1 ∧ x1 ≤ 5 ∧ 0 ≤ x3 ∧ x3 ≤ 5)) ∧ α1 48 = α 48) ∨ ((v1 = -11 ∧ (0 ≤ x1 ∧ x1 ≤ 5 ∧ 0 ≤ x3 ∧ x3 ≤ 5) ∧ (α 45 (x1 : Int).toNat = 6 ∨ α 45 (x3 : Int).toNat = 6)) ∧ α1 48 = α 48) ∨ ((v1 = -12 ∧ (0 ≤ x1 ∧ x1 ≤ 5 ∧ 0 ≤ x3 ∧ x3 ≤ 5) ∧ ¬ (α 45 (x1 : Int).toNat = 6 ∨ α 45 (x3 : Int).toNat = 6) ∧ ¬ (α 45 (x1 : Int).toNat < 5 ∧ α 45 (x3 : Int).toNat = α 45 (x1 : Int).toNat)) ∧ α1 48 = α 48) ∨ ((v1 = -13 ∧ (0 ≤ x1 ∧ x1 ≤ 5 ∧ 0 ≤ x3 ∧ x3 ≤ 5) ∧ ¬ (α 45 (x1 : Int).toNat = 6 ∨ α 45 (x3 : Int).toNat = 6) ∧ (α 45 (x1 : Int).toNat < 5 ∧ α 45 (x3 : Int).toNat = α 45 (x1 : Int).toNat) ∧ ¬ (0 ≤ x2 ∧ 0 ≤ x5 ∧ x5 ≤ α 46 (x1 : Int).toNat ∧ x2 ≤ α 46 (x1 : Int).toNat - x5 ∧ 0 ≤ x4 ∧ x5 ≤ α 46 (x3 : Int).toNat ∧ x4 ≤ α 46 (x3 : Int).toNat - x5)) ∧ α1 48 = α 48) ∨ ((v1 = x5 ∧ (0 ≤ x1 ∧ x1 ≤ 5 ∧ 0 ≤ x3 ∧ x3 ≤ 5) ∧ ¬ (α 45 (x1 : Int).toNat = 6 ∨ α 45 (x3 : Int).toNat = 6) ∧ (α 45 (x1 : Int).toNat < 5 ∧ α 45 (x3 : Int).toNat = α 45 (x1 : Int).toNat) ∧ (0 ≤ x2 ∧ 0 ≤ x5 ∧ x5 ≤ α 46 (x1 : Int).toNat ∧ x2 ≤ α 46 (x1 : Int).toNat - x5 ∧ 0 ≤ x4 ∧ x5 ≤ α 46 (x3 : Int).toNat ∧ x4 ≤ α 46 (x3 : Int).toNat - x5)) ∧ α1 48 = va_cpy (α 48) (α 48) (x1 * 60 + x2 : Int).toNat (x3 * 60 + x4 : Int).toNat (x5 : Int).toNat)) (hy : ((v2 = -1 ∧ ¬ (0 ≤ x1 ∧ x1 ≤ 5 ∧ 0 ≤ x3 ∧ x3 ≤ 5)) ∧ α2 123 = α1 123) ∨ ((v2 = -11 ∧ (0 ≤ x1 ∧ x1 ≤ 5 ∧ 0 ≤ x3 ∧ x3 ≤ 5) ∧ (α1 121 (x1 : Int).toNat < 0 ∨ α1 121 (x3 : Int).toNat < 0)) ∧ α2 123 = α1 123) ∨ ((v2 = -12 ∧ (0 ≤ x1 ∧ x1 ≤ 5 ∧ 0 ≤ x3 ∧ x3 ≤ 5) ∧ ¬ (α1 121 (x1 : Int).toNat < 0 ∨ α1 121 (x3 : Int).toNat < 0) ∧ ¬ (60 ≤ α1 121 (x1 : Int).toNat ∧ α1 121 (x1 : Int).toNat = α1 121 (x3 : Int).toNat)) ∧ α2 123 = α1 123) ∨ ((v2 = -13 ∧ (0 ≤ x1 ∧ x1 ≤ 5 ∧ 0 ≤ x3 ∧ x3 ≤ 5) ∧ ¬ (α1 121 (x1 : Int).toNat < 0 ∨ α1 121 (x3 : Int).toNat < 0) ∧ (60 ≤ α1 121 (x1 : Int).toNat ∧ α1 121 (x1 : Int).toNat = α1 121 (x3 : Int).toNat) ∧ ¬ (0 ≤ x2 ∧ 0 ≤ x5 ∧ x5 ≤ α1 122 (x1 : Int).toNat ∧ x2 ≤ α1 122 (x1 : Int).toNat - x5 ∧ 0 ≤ x4 ∧ x5 ≤ α1 122 (x3 : Int).toNat ∧ x4 ≤ α1 122 (x3 : Int).toNat - x5)) ∧ α2 123 = α1 123) ∨ ((v2 = x5 ∧ (0 ≤ x1 ∧ x1 ≤ 5 ∧ 0 ≤ x3 ∧ x3 ≤ 5) ∧ ¬ (α1 121 (x1 : Int).toNat < 0 ∨ α1 121 (x3 : Int).toNat < 0) ∧ (60 ≤ α1 121 (x1 : Int).toNat ∧ α1 121 (x1 : Int).toNat = α1 121 (x3 : Int).toNat) ∧ (0 ≤ x2 ∧ 0 ≤ x5 ∧ x5 ≤ α1 122 (x1 : Int).toNat ∧ x2 ≤ α1 122 (x1 : Int).toNat - x5 ∧ 0 ≤ x4 ∧ x5 ≤ α1 122 (x3 : Int).toNat ∧ x4 ≤ α1 122 (x3 : Int).toNat - x5)) ∧ α2 123 = va_cpy (α1 123) (α1 123) (60 * x1 + x2 : Int).toNat (60 * x3 + x4 : Int).toNat (x5 : Int).toNat)) : v1 = v2 ∧ qR σ2 α2 := by
  obtain ⟨r1, r2, r3, r4, r5, r6, r7, r8, r9⟩ := hR
  have c17_6 := hG1.1 17 6 (by decide)
  have d17_6 := hG2.1 17 6 (by decide)
  have c27_7 := hG1.1 27 7 (by decide)
  have d27_7 := hG2.1 27 7 (by decide)
  have c34_7 := hG1.1 34 7 (by decide)
  have d34_7 := hG2.1 34 7 (by decide)
  have c86_6 := hG1.1 86 6 (by decide)
  have d86_6 := hG2.1 86 6 (by decide)
  have c86_16 := hG1.1 86 16 (by decide)
  have d86_16 := hG2.1 86 16 (by decide)
  have c86_24 := hG1.1 86 24 (by decide)
  have d86_24 := hG2.1 86 24 (by decide)
  have c18 := hG1.2 18 (by decide)
  have d18 := hG2.2 18 (by decide)
  have c19 := hG1.2 19 (by decide)
  have d19 := hG2.2 19 (by decide)
  have c21 := hG1.2 21 (by decide)
  have d21 := hG2.2 21 (by decide)
  have c45 := hG1.2 45 (by decide)
  have d45 := hG2.2 45 (by decide)
  have c46 := hG1.2 46 (by decide)
  have d46 := hG2.2 46 (by decide)
  have c47 := hG1.2 47 (by decide)
  have d47 := hG2.2 47 (by decide)
  have d48 := hG2.2 48 (by decide)
  have c91 := hG1.2 91 (by decide)
  have d91 := hG2.2 91 (by decide)
  have c92 := hG1.2 92 (by decide)
  have d92 := hG2.2 92 (by decide)
  have c93 := hG1.2 93 (by decide)
  have d93 := hG2.2 93 (by decide)
  have c121 := hG1.2 121 (by decide)
  have d121 := hG2.2 121 (by decide)
  have c122 := hG1.2 122 (by decide)
  have d122 := hG2.2 122 (by decide)
  have c123 := hG1.2 123 (by decide)
  have hb1 : 0 ≤ x1 ∧ x1 ≤ 5 → qpg (α 45 (x1 : Int).toNat) (α 47 (x1 : Int).toNat) (α 121 (x1 : Int).toNat) := fun h => r8 _ (by omega)
  have hb3 : 0 ≤ x3 ∧ x3 ≤ 5 → qpg (α 45 (x3 : Int).toNat) (α 47 (x3 : Int).toNat) (α 121 (x3 : Int).toNat) := fun h => r8 _ (by omega)
  have hl1 : α 46 (x1 : Int).toNat = α 122 (x1 : Int).toNat := by rw [r7]
  have hl3 : α 46 (x3 : Int).toNat = α 122 (x3 : Int).toNat := by rw [r7]
  rw [c121, c122] at hy
  unfold qpg at hb1 hb3
  rcases hx with ⟨xn0, x48⟩ | ⟨xn0, x48⟩ | ⟨xn0, x48⟩ | ⟨xn0, x48⟩ | ⟨xn0, x48⟩
  · rcases hy with ⟨yn0, y123⟩ | ⟨yn0, y123⟩ | ⟨yn0, y123⟩ | ⟨yn0, y123⟩ | ⟨yn0, y123⟩
    · skip
      have hv : v1 = v2 := by omega
      refine ⟨hv, by omega, by omega, by omega, ?_, ?_, ?_, ?_, ?_, ?_⟩
      · exact by rw [d18, c18, d91, c91, r4]
      · exact by rw [d19, c19, d92, c92, r5]
      · exact by rw [d21, c21, d93, c93, r6]
      · exact by rw [d46, c46, d122, c122, r7]
      · exact (by rw [d45, c45, d47, c47, d121, c121]; exact r8)
      · exact (by rw [d46, c46, d48, x48, y123, c123]; exact r9)
    · exact False.elim (by omega)
    · exact False.elim (by omega)
    · exact False.elim (by omega)
    · exact False.elim (by omega)
  · rcases hy with ⟨yn0, y123⟩ | ⟨yn0, y123⟩ | ⟨yn0, y123⟩ | ⟨yn0, y123⟩ | ⟨yn0, y123⟩
    · exact False.elim (by omega)
    · skip
      have hv : v1 = v2 := by omega
      refine ⟨hv, by omega, by omega, by omega, ?_, ?_, ?_, ?_, ?_, ?_⟩
      · exact by rw [d18, c18, d91, c91, r4]
      · exact by rw [d19, c19, d92, c92, r5]
      · exact by rw [d21, c21, d93, c93, r6]
      · exact by rw [d46, c46, d122, c122, r7]
      · exact (by rw [d45, c45, d47, c47, d121, c121]; exact r8)
      · exact (by rw [d46, c46, d48, x48, y123, c123]; exact r9)
    · exact False.elim (by omega)
    · exact False.elim (by omega)
    · exact False.elim (by omega)
  · rcases hy with ⟨yn0, y123⟩ | ⟨yn0, y123⟩ | ⟨yn0, y123⟩ | ⟨yn0, y123⟩ | ⟨yn0, y123⟩
    · exact False.elim (by omega)
    · exact False.elim (by omega)
    · skip
      have hv : v1 = v2 := by omega
      refine ⟨hv, by omega, by omega, by omega, ?_, ?_, ?_, ?_, ?_, ?_⟩
      · exact by rw [d18, c18, d91, c91, r4]
      · exact by rw [d19, c19, d92, c92, r5]
      · exact by rw [d21, c21, d93, c93, r6]
      · exact by rw [d46, c46, d122, c122, r7]
      · exact (by rw [d45, c45, d47, c47, d121, c121]; exact r8)
      · exact (by rw [d46, c46, d48, x48, y123, c123]; exact r9)
    · exact False.elim (by omega)
    · exact False.elim (by omega)
  · rcases hy with ⟨yn0, y123⟩ | ⟨yn0, y123⟩ | ⟨yn0, y123⟩ | ⟨yn0, y123⟩ | ⟨yn0, y123⟩
    · exact False.elim (by omega)
    · exact False.elim (by omega)
    · exact False.elim (by omega)
    · skip
      have hv : v1 = v2 := by omega
      refine ⟨hv, by omega, by omega, by omega, ?_, ?_, ?_, ?_, ?_, ?_⟩
      · exact by rw [d18, c18, d91, c91, r4]
      · exact by rw [d19, c19, d92, c92, r5]
      · exact by rw [d21, c21, d93, c93, r6]
      · exact by rw [d46, c46, d122, c122, r7]
      · exact (by rw [d45, c45, d47, c47, d121, c121]; exact r8)
      · exact (by rw [d46, c46, d48, x48, y123, c123]; exact r9)
    · exact False.elim (by omega)
  · rcases hy with ⟨yn0, y123⟩ | ⟨yn0, y123⟩ | ⟨yn0, y123⟩ | ⟨yn0, y123⟩ | ⟨yn0, y123⟩
    · exact False.elim (by omega)
    · exact False.elim (by omega)
    · exact False.elim (by omega)
    · exact False.elim (by omega)
    · skip
      have hv : v1 = v2 := by omega
      refine ⟨hv, by omega, by omega, by omega, ?_, ?_, ?_, ?_, ?_, ?_⟩
      · exact by rw [d18, c18, d91, c91, r4]
      · exact by rw [d19, c19, d92, c92, r5]
      · exact by rw [d21, c21, d93, c93, r6]
      · exact by rw [d46, c46, d122, c122, r7]
      · exact (by rw [d45, c45, d47, c47, d121, c121]; exact r8)
      · intro d i hd hi
        have hl2 : 0 ≤ α 46 d ∧ α 46 d ≤ 60 := hI.2.1 46 d hd
        have hm1 : 0 ≤ α 46 (x1 : Int).toNat ∧ α 46 (x1 : Int).toNat ≤ 60 := hI.2.1 46 _ (show (x1 : Int).toNat < 6 by omega)
        have hm3 : 0 ≤ α 46 (x3 : Int).toNat ∧ α 46 (x3 : Int).toNat ≤ 60 := hI.2.1 46 _ (show (x3 : Int).toNat < 6 by omega)
        rw [d46, c46] at hi
        have h9 := r9 d i hd hi
        rw [d48, x48, y123, c123]
        unfold va_cpy
        by_cases e : (x3 * 60 + x4 : Int).toNat ≤ 60 * d + i ∧ 60 * d + i < (x3 * 60 + x4 : Int).toNat + (x5 : Int).toNat
        · have h10 := r9 (x1 : Int).toNat ((x2 : Int).toNat + (60 * d + i - (x3 * 60 + x4 : Int).toNat)) (by omega) (by omega)
          rw [if_pos e, if_pos (by omega), show (x1 * 60 + x2 : Int).toNat + (60 * d + i - (x3 * 60 + x4 : Int).toNat) = 60 * (x1 : Int).toNat + ((x2 : Int).toNat + (60 * d + i - (x3 * 60 + x4 : Int).toNat)) by omega, show (60 * x1 + x2 : Int).toNat + (60 * d + i - (60 * x3 + x4 : Int).toNat) = 60 * (x1 : Int).toNat + ((x2 : Int).toNat + (60 * d + i - (x3 * 60 + x4 : Int).toNat)) by omega]
          exact h10
        · rw [if_neg e, if_neg (by omega)]
          exact h9
end
section
/-! a new tie laid into the table: P says of a number that it is a way -/
def qCl (P : Int → Int → Int → Prop) (a b : Int) : Prop := ∀ t1 t2 x y : Int, (0 ≤ x ∧ x < 32) → (0 ≤ y ∧ y < 32) → (P t1 x a → P t2 b y → P (t1 + t2 + 1) x y) ∧ (P t1 x b → P t2 a y → P (t1 + t2 + 1) x y)
def qJn (P : Int → Int → Int → Prop) (f g : Nat → Int) (a b n i j : Int) : Prop := (∀ x y : Int, (0 ≤ x ∧ x < 32) → (0 ≤ y ∧ y < 32) → qTb g x y ≤ qTb f x y) ∧ (∀ x y : Int, (0 ≤ x ∧ x < 32) → (0 ≤ y ∧ y < 32) → P (qTb g x y) x y) ∧ (∀ x y : Int, 0 ≤ x → (0 ≤ y ∧ y < n) → (x < i ∨ (x = i ∧ y < j)) → qTb g x y ≤ qTb f x a + qTb f b y + 1 ∧ qTb g x y ≤ qTb f x b + qTb f a y + 1)
theorem qJn_0 {P : Int → Int → Int → Prop} {f : Nat → Int} {a b n : Int} (h : ∀ x y : Int, (0 ≤ x ∧ x < 32) → (0 ≤ y ∧ y < 32) → P (qTb f x y) x y) : qJn P f f a b n 0 0 := by
  refine ⟨fun _ _ _ _ => Int.le_refl _, h, fun x y hx hy hp => ?_⟩
  exact False.elim (by omega)
theorem qJn_row {P : Int → Int → Int → Prop} {f g : Nat → Int} {a b n i j : Int} (h : qJn P f g a b n i j) (hj : n ≤ j) : qJn P f g a b n (i + 1) 0 := by
  refine ⟨h.1, h.2.1, fun x y hx hy hp => h.2.2 x y hx hy ?_⟩
  omega
theorem qJn_end {P : Int → Int → Int → Prop} {f g : Nat → Int} {a b n i : Int} (h : qJn P f g a b n i 0) (hi : n ≤ i) : qJn P f g a b n n 0 :=
  ⟨h.1, h.2.1, fun x y hx hy hp => h.2.2 x y hx hy (by omega)⟩
theorem qJn_skip {P : Int → Int → Int → Prop} {f g : Nat → Int} {a b n i j : Int} (h : qJn P f g a b n i j) (hi : 0 ≤ i ∧ i < 32) (hj : 0 ≤ j ∧ j < n) (hn : n ≤ 32) (ha : 0 ≤ a ∧ a < 32) (hb : 0 ≤ b ∧ b < 32) {t1 t2 t3 t4 t5 m : Int} (e1 : t1 = qTb g i a) (e2 : t2 = qTb g b j) (e3 : t3 = qTb g i b) (e4 : t4 = qTb g a j) (e5 : t5 = qTb g i j) (hm : m ≤ t1 + t2 ∧ m ≤ t3 + t4) (hl : t5 ≤ m + 1) : qJn P f g a b n i (j + 1) := by
  refine ⟨h.1, h.2.1, fun x y hx hy hp => ?_⟩
  by_cases e : x = i ∧ y = j
  · obtain ⟨rfl, rfl⟩ := e
    have h1 := h.1 x a hi ha
    have h2 := h.1 b y hb (by omega)
    have h3 := h.1 x b hi hb
    have h4 := h.1 a y ha (by omega)
    omega
  · exact h.2.2 x y hx hy (by omega)
theorem qJn_set {P : Int → Int → Int → Prop} {f g : Nat → Int} {a b n i j : Int} (h : qJn P f g a b n i j) (cl : qCl P a b) (hi : 0 ≤ i ∧ i < 32) (hj : 0 ≤ j ∧ j < n) (hn : n ≤ 32) (ha : 0 ≤ a ∧ a < 32) (hb : 0 ≤ b ∧ b < 32) {k : Nat} (hk : k = (i * 32 + j : Int).toNat) {t1 t2 t3 t4 t5 m : Int} (e1 : t1 = qTb g i a) (e2 : t2 = qTb g b j) (e3 : t3 = qTb g i b) (e4 : t4 = qTb g a j) (e5 : t5 = qTb g i j) (hm : (m = t1 + t2 ∨ m = t3 + t4) ∧ m ≤ t1 + t2 ∧ m ≤ t3 + t4) (hl : m + 1 < t5) : qJn P f (qzu g k (m + 1)) a b n i (j + 1) := by
  have hj2 : 0 ≤ j ∧ j < 32 := by omega
  refine ⟨fun x y hx hy => ?_, fun x y hx hy => ?_, fun x y hx hy hp => ?_⟩
  · rw [qTb_u hk hi hj2 hx.1 hy]
    split
    · next e =>
      obtain ⟨rfl, rfl⟩ := e
      have h1 := h.1 x y hx hy
      omega
    · exact h.1 x y hx hy
  · rw [qTb_u hk hi hj2 hx.1 hy]
    split
    · next e =>
      obtain ⟨rfl, rfl⟩ := e
      rcases hm.1 with h5 | h5
      · rw [h5, e1, e2]
        exact (cl _ _ x y hx hy).1 (h.2.1 x a hx ha) (h.2.1 b y hb hy)
      · rw [h5, e3, e4]
        exact (cl _ _ x y hx hy).2 (h.2.1 x b hx hb) (h.2.1 a y ha hy)
    · exact h.2.1 x y hx hy
  · rw [qTb_u hk hi hj2 hx (by omega)]
    split
    · next e =>
      obtain ⟨rfl, rfl⟩ := e
      have h1 := h.1 x a hi ha
      have h2 := h.1 b y hb (by omega)
      have h3 := h.1 x b hi hb
      have h4 := h.1 a y ha (by omega)
      omega
    · exact h.2.2 x y hx hy (by omega)

set_option maxHeartbeats 4000000 in
set_option maxRecDepth 20000 in
/-- OneRoof$Kinship.apart -/
theorem sf_57_23x {L : Nat} {xs : Nat → Int} {vb : Bool} {d : Nat} {σ α : Nat → Nat → Int} {κ : Nat → Option Nat} {ρ : Nat} {x1 : Int} {x2 : Int} (hI : qI σ α κ ρ) (r1 : 0 ≤ x1 ∧ x1 ≤ 31) (r2 : 0 ≤ x2 ∧ x2 ≤ 31) : qm_T (qe L xs vb) (d + 1) 57 [.ref 23, .int (qz x1), .int (qz x2)] (qw σ α κ ρ) (fun r w' => w' = qw σ α κ ρ ∧ ∃ v : Int, r = some (.int (qz v)) ∧ (0 ≤ v ∧ v ≤ 99) ∧ v = α 24 (x1 * 32 + x2 : Int).toNat) := by
  refine qr_start (d := d + 0) qv_e57 (Nat.le_of_ble_eq_true rfl) ?_
  show qr_W (qe L xs vb) (d + 0) qx_e57 _ (0, [(0, .ref 23), (1, .int (qz x1)), (2, .int (qz x2))], [], _, 0, 0)
  refine qr_aload_n 1 rfl rfl rfl ?_
  refine qr_get 4 rfl rfl rfl (by decide) rfl ?_
  refine qr_iload_n 5 rfl rfl rfl ?_
  refine qr_bipush 7 rfl (by decide) rfl ?_
  refine qr_imul 8 rfl rfl ?_
  refine qr_iload_n 9 rfl rfl rfl ?_
  refine qr_iadd 10 rfl rfl ?_
  refine qr_iaload 11 rfl rfl (by omega) (by decide) rfl ?_
  refine qr_topI (fun v1 hv1 => ?_)
  have hs2 : 0 ≤ v1 ∧ v1 ≤ 99 := by rw [hv1]; exact hI.2.1 24 _ (show _ < 1024 by omega)
  refine qr_retI rfl rfl (by decide) (by decide) ?_
  exact ⟨rfl, v1, rfl, hs2, by omega⟩

set_option maxHeartbeats 4000000 in
set_option maxRecDepth 20000 in
/-- OneRoof$Kinship.join -/
theorem sf_58_23x {L : Nat} {xs : Nat → Int} {vb : Bool} {d : Nat} {σ α : Nat → Nat → Int} {κ : Nat → Option Nat} {ρ : Nat} {x1 : Int} {x2 : Int} {x3 : Int} {P : Int → Int → Int → Prop} (hI : qI σ α κ ρ) (r1 : 0 ≤ x1 ∧ x1 ≤ 31) (r2 : 0 ≤ x2 ∧ x2 ≤ 31) (r3 : 0 ≤ x3 ∧ x3 ≤ 32) (p0 : ∀ x y : Int, (0 ≤ x ∧ x < 32) → (0 ≤ y ∧ y < 32) → P (qTb (α 24) x y) x y) (p1 : qCl P x1 x2) (p2 : 0 ≤ σ 23 1 ∧ σ 23 1 ≤ 60) : qm_T (qe L xs vb) (d + 2) 58 [.ref 23, .int (qz x1), .int (qz x2), .int (qz x3)] (qw σ α κ ρ) (fun r w' => ∃ σ' α', w' = qw σ' α' κ ρ ∧ qI σ' α' κ ρ ∧ qFr [(23, 1)] [24] σ α σ' α' ∧ σ' 23 1 = σ 23 1 + 1 ∧ r = none ∧ qJn P (α 24) (α' 24) x1 x2 x3 x3 0) := by
  refine qr_start (d := d + 1) qv_e58 (Nat.le_of_ble_eq_true rfl) ?_
  show qr_W (qe L xs vb) (d + 1) qx_e58 _ (0, [(0, .ref 23), (1, .int (qz x1)), (2, .int (qz x2)), (3, .int (qz x3))], [], _, 0, 0)
  have hF0 := qFr_rf [(23, 1)] [24] σ α
  have hz23_1 : (-2147483648) ≤ σ 23 1 ∧ σ 23 1 ≤ 2147483647 := hI.1 23 1
  refine qr_aload_n 1 rfl rfl rfl ?_
  refine qr_dup 2 rfl rfl rfl ?_
  refine qr_get 5 rfl rfl rfl (by decide) rfl ?_
  refine qr_iconst 6 rfl rfl ?_
  refine qr_iadd 7 rfl rfl ?_
  refine qr_put 10 rfl (by decide) rfl (Nat.le_of_ble_eq_true rfl) (Nat.le_of_ble_eq_true rfl) (Or.inl rfl) (qr_fitI rfl _) rfl ?_
  refine qy_wS (qw_s σ 23 1 ((σ 23 1) + 1)) rfl (fun σ1 e2 => ?_)
  have hI3 : qI σ1 α κ ρ := by rw [e2]; exact qI_s hI 23 1 rfl (show (-2147483648) ≤ ((σ 23 1) + 1) ∧ ((σ 23 1) + 1) ≤ 2147483647 by omega)
  have hF4 : qFr [(23, 1)] [24] σ α σ1 α := by rw [e2]; exact qFr_s hF0 23 1 _ (by decide)
  refine qr_iconst 11 rfl rfl ?_
  refine qr_istore _ 13 rfl (by decide) rfl rfl ?_
  have hL4877 : ∀ (n : Nat) (ls : qm_L) (u4870 : Int) (α4872 : Nat → Nat → Int), 32 - u4870 < (n : Int) → qm_get ls 0 = some (.ref 23) → qm_get ls 1 = some (.int (qz x1)) → qm_get ls 2 = some (.int (qz x2)) → qm_get ls 3 = some (.int (qz x3)) → qm_get ls 4 = some (.int (qz u4870)) → (0 ≤ u4870 ∧ u4870 ≤ 32) → qI σ1 α4872 κ ρ → qFr [(23, 1)] [24] σ α σ1 α4872 → qJn P (α 24) (α4872 24) x1 x2 x3 u4870 0 → qr_W (qe L xs vb) (d + 1) qx_e58 (fun r w' => ∃ σ' α', w' = qw σ' α' κ ρ ∧ qI σ' α' κ ρ ∧ qFr [(23, 1)] [24] σ α σ' α' ∧ σ' 23 1 = σ 23 1 + 1 ∧ r = none ∧ qJn P (α 24) (α' 24) x1 x2 x3 x3 0) (13, ls, [], qw σ1 α4872 κ ρ, 0, 0) := by
    intro n
    induction n with
    | zero => intro ls u4870 α4872 hm g4865 g4866 g4867 g4868 g4869 hf4875 hI4873 hF4874 hx4876; exact False.elim (by omega)
    | succ n ih4878 =>
      intro ls u4870 α4872 hm g4865 g4866 g4867 g4868 g4869 hf4875 hI4873 hF4874 hx4876
      refine qr_iload 15 rfl g4869 rfl ?_
      refine qr_iload_n 16 rfl g4868 rfl ?_
      refine qr_icmp_ge 105 19 rfl rfl rfl (qrg hf4875 (by decide) (by decide)) (qrg r3 (by decide) (by decide)) (fun h4879 => ?_) (fun h4879 => ?_)
      · skip
        refine qr_retV rfl rfl (by decide) (by decide) ?_
        exact ⟨_, _, rfl, hI4873, hF4874, (by have hw : σ1 23 1 = ((σ 23 1) + 1) := (congrFun (congrFun e2 23) 1).trans rfl; omega), rfl, (qJn_end hx4876 (by omega))⟩
      · skip
        refine qr_iconst 20 rfl rfl ?_
        refine qr_istore _ 22 rfl (by decide) rfl rfl ?_
        have hL5193 : ∀ (n : Nat) (ls : qm_L) (u5186 : Int) (α5188 : Nat → Nat → Int), 32 - u5186 < (n : Int) → qm_get ls 0 = some (.ref 23) → qm_get ls 1 = some (.int (qz x1)) → qm_get ls 2 = some (.int (qz x2)) → qm_get ls 3 = some (.int (qz x3)) → qm_get ls 4 = some (.int (qz u4870)) → qm_get ls 5 = some (.int (qz u5186)) → (0 ≤ u5186 ∧ u5186 ≤ 32) → qI σ1 α5188 κ ρ → qFr [(23, 1)] [24] σ α σ1 α5188 → qJn P (α 24) (α5188 24) x1 x2 x3 u4870 u5186 → qr_W (qe L xs vb) (d + 1) qx_e58 (fun r w' => ∃ σ' α', w' = qw σ' α' κ ρ ∧ qI σ' α' κ ρ ∧ qFr [(23, 1)] [24] σ α σ' α' ∧ σ' 23 1 = σ 23 1 + 1 ∧ r = none ∧ qJn P (α 24) (α' 24) x1 x2 x3 x3 0) (22, ls, [], qw σ1 α5188 κ ρ, 0, 0) := by
          intro n
          induction n with
          | zero => intro ls u5186 α5188 hm g5180 g5181 g5182 g5183 g5184 g5185 hf5191 hI5189 hF5190 hx5192; exact False.elim (by omega)
          | succ n ih5194 =>
            intro ls u5186 α5188 hm g5180 g5181 g5182 g5183 g5184 g5185 hf5191 hI5189 hF5190 hx5192
            refine qr_iload 24 rfl g5185 rfl ?_
            refine qr_iload_n 25 rfl g5183 rfl ?_
            refine qr_icmp_ge 99 28 rfl rfl rfl (qrg hf5191 (by decide) (by decide)) (qrg r3 (by decide) (by decide)) (fun h5195 => ?_) (fun h5195 => ?_)
            · skip
              refine qr_iinc _ 102 rfl g5184 (by decide) rfl rfl ?_
              refine qr_goto 13 rfl rfl ?_
              exact ih4878 _ (u4870 + 1) α5188 (by omega) (qm_gk g5180 (by decide) (Or.inl (by decide))) (qm_gk g5181 (by decide) (Or.inl (by decide))) (qm_gk g5182 (by decide) (Or.inl (by decide))) (qm_gk g5183 (by decide) (Or.inr rfl)) (qm_ge _ _ _) (by omega) hI5189 hF5190 (qJn_row hx5192 (by omega))
            · skip
              refine qr_aload_n 29 rfl g5180 rfl ?_
              refine qr_iload 31 rfl g5184 rfl ?_
              refine qr_iload_n 32 rfl g5181 rfl ?_
              refine qr_callN 35 rfl rfl rfl (sf_57_23x (d := d + 0) hI5189 (by omega) r1) ?_
              rintro _ _ ⟨rfl, v5196, rfl, hv5196, hp5197⟩
              show qr_W (qe L xs vb) (d + 1) qx_e58 _ (35, _, [.int (qz v5196)], qw σ1 α5188 κ ρ, 0, 0)
              refine qr_aload_n 36 rfl g5180 rfl ?_
              refine qr_iload_n 37 rfl g5182 rfl ?_
              refine qr_iload 39 rfl g5185 rfl ?_
              refine qr_callN 42 rfl rfl rfl (sf_57_23x (d := d + 0) hI5189 r2 (by omega)) ?_
              rintro _ _ ⟨rfl, v5198, rfl, hv5198, hp5199⟩
              show qr_W (qe L xs vb) (d + 1) qx_e58 _ (42, _, [.int (qz v5198), .int (qz v5196)], qw σ1 α5188 κ ρ, 0, 0)
              refine qr_iadd 43 rfl rfl ?_
              refine qr_aload_n 44 rfl g5180 rfl ?_
              refine qr_iload 46 rfl g5184 rfl ?_
              refine qr_iload_n 47 rfl g5182 rfl ?_
              refine qr_callN 50 rfl rfl rfl (sf_57_23x (d := d + 0) hI5189 (by omega) r2) ?_
              rintro _ _ ⟨rfl, v5200, rfl, hv5200, hp5201⟩
              show qr_W (qe L xs vb) (d + 1) qx_e58 _ (50, _, [.int (qz v5200), .int (qz (v5196 + v5198))], qw σ1 α5188 κ ρ, 0, 0)
              refine qr_aload_n 51 rfl g5180 rfl ?_
              refine qr_iload_n 52 rfl g5181 rfl ?_
              refine qr_iload 54 rfl g5185 rfl ?_
              refine qr_callN 57 rfl rfl rfl (sf_57_23x (d := d + 0) hI5189 r1 (by omega)) ?_
              rintro _ _ ⟨rfl, v5202, rfl, hv5202, hp5203⟩
              show qr_W (qe L xs vb) (d + 1) qx_e58 _ (57, _, [.int (qz v5202), .int (qz v5200), .int (qz (v5196 + v5198))], qw σ1 α5188 κ ρ, 0, 0)
              refine qr_iadd 58 rfl rfl ?_
              refine qr_callN 61 rfl rfl rfl (sf_12 (d := d + 0) hI5189 (by omega) (by omega)) ?_
              rintro _ _ ⟨rfl, v5204, rfl, hv5204, hp5205⟩
              show qr_W (qe L xs vb) (d + 1) qx_e58 _ (61, _, [.int (qz v5204)], qw σ1 α5188 κ ρ, 0, 0)
              refine qr_iconst 62 rfl rfl ?_
              refine qr_iadd 63 rfl rfl ?_
              refine qr_istore _ 65 rfl (by decide) rfl rfl ?_
              refine qr_iload 67 rfl (qm_ge _ _ _) rfl ?_
              refine qr_aload_n 68 rfl (qm_gk g5180 (by decide) (Or.inl (by decide))) rfl ?_
              refine qr_iload 70 rfl (qm_gk g5184 (by decide) (Or.inl (by decide))) rfl ?_
              refine qr_iload 72 rfl (qm_gk g5185 (by decide) (Or.inr rfl)) rfl ?_
              refine qr_callN 75 rfl rfl rfl (sf_57_23x (d := d + 0) hI5189 (by omega) (by omega)) ?_
              rintro _ _ ⟨rfl, v5206, rfl, hv5206, hp5207⟩
              show qr_W (qe L xs vb) (d + 1) qx_e58 _ (75, _, [.int (qz v5206), .int (qz (v5204 + 1))], qw σ1 α5188 κ ρ, 0, 0)
              refine qr_icmp_ge 93 78 rfl rfl rfl (by omega) (qrg hv5206 (by decide) (by decide)) (fun h5208 => ?_) (fun h5208 => ?_)
              · skip
                refine qr_iinc _ 96 rfl (qm_gk g5185 (by decide) (Or.inr rfl)) (by decide) rfl rfl ?_
                refine qr_goto 22 rfl rfl ?_
                exact ih5194 _ (u5186 + 1) α5188 (by omega) (qm_gk (qm_gk g5180 (by decide) (Or.inl (by decide))) (by decide) (Or.inl (by decide))) (qm_gk (qm_gk g5181 (by decide) (Or.inl (by decide))) (by decide) (Or.inl (by decide))) (qm_gk (qm_gk g5182 (by decide) (Or.inl (by decide))) (by decide) (Or.inl (by decide))) (qm_gk (qm_gk g5183 (by decide) (Or.inl (by decide))) (by decide) (Or.inl (by decide))) (qm_gk (qm_gk g5184 (by decide) (Or.inl (by decide))) (by decide) (Or.inr rfl)) (qm_ge _ _ _) (by omega) hI5189 hF5190 (qJn_skip hx5192 (by omega) (by omega) (by omega) (by omega) (by omega) hp5197 hp5199 hp5201 hp5203 hp5207 (m := v5204) (by omega) (by omega))
              · skip
                refine qr_aload_n 79 rfl (qm_gk g5180 (by decide) (Or.inl (by decide))) rfl ?_
                refine qr_get 82 rfl rfl rfl (by decide) rfl ?_
                refine qr_iload 84 rfl (qm_gk g5184 (by decide) (Or.inl (by decide))) rfl ?_
                refine qr_bipush 86 rfl (by decide) rfl ?_
                refine qr_imul 87 rfl rfl ?_
                refine qr_iload 89 rfl (qm_gk g5185 (by decide) (Or.inr rfl)) rfl ?_
                refine qr_iadd 90 rfl rfl ?_
                refine qr_iload 92 rfl (qm_ge _ _ _) rfl ?_
                refine qr_iastore 93 rfl (by decide) rfl (by omega) (by decide) rfl ?_
                refine qy_wA (qw_r α5188 24 (qzu (α5188 24) (((u4870 * 32) + u5186) : Int).toNat (v5204 + 1))) rfl (fun α5209 e5210 => ?_)
                have hI5211 : qI σ1 α5209 κ ρ := by rw [e5210]; exact qI_r hI5189 24 _ rfl (show 0 ≤ (v5204 + 1) ∧ (v5204 + 1) ≤ 99 by omega)
                have hF5212 : qFr [(23, 1)] [24] σ α σ1 α5209 := by rw [e5210]; exact qFr_r hF5190 24 _ (by decide)
                refine qr_iinc _ 96 rfl (qm_gk g5185 (by decide) (Or.inr rfl)) (by decide) rfl rfl ?_
                refine qr_goto 22 rfl rfl ?_
                exact ih5194 _ (u5186 + 1) α5209 (by omega) (qm_gk (qm_gk g5180 (by decide) (Or.inl (by decide))) (by decide) (Or.inl (by decide))) (qm_gk (qm_gk g5181 (by decide) (Or.inl (by decide))) (by decide) (Or.inl (by decide))) (qm_gk (qm_gk g5182 (by decide) (Or.inl (by decide))) (by decide) (Or.inl (by decide))) (qm_gk (qm_gk g5183 (by decide) (Or.inl (by decide))) (by decide) (Or.inl (by decide))) (qm_gk (qm_gk g5184 (by decide) (Or.inl (by decide))) (by decide) (Or.inr rfl)) (qm_ge _ _ _) (by omega) hI5211 hF5212 (by rw [(congrFun e5210 24).trans qw_r_eq]; exact qJn_set hx5192 p1 (by omega) (by omega) (by omega) (by omega) (by omega) rfl hp5197 hp5199 hp5201 hp5203 hp5207 (by omega) (by omega))
        exact hL5193 ((32 - 0 + 1 : Int)).toNat _ 0 α4872 (by omega) (qm_gk g4865 (by decide) (Or.inl (by decide))) (qm_gk g4866 (by decide) (Or.inl (by decide))) (qm_gk g4867 (by decide) (Or.inl (by decide))) (qm_gk g4868 (by decide) (Or.inl (by decide))) (qm_gk g4869 (by decide) (Or.inr rfl)) (qm_ge _ _ _) (by decide) hI4873 hF4874 hx4876
  exact hL4877 ((32 - 0 + 1 : Int)).toNat _ 0 α (by omega) rfl rfl rfl rfl rfl (by decide) hI3 hF4 (qJn_0 p0)

set_option maxHeartbeats 4000000 in
set_option maxRecDepth 20000 in
/-- OneRoof.kin -/
theorem sf_56_16x {L : Nat} {xs : Nat → Int} {vb : Bool} {d : Nat} {σ α : Nat → Nat → Int} {κ : Nat → Option Nat} {ρ : Nat} {x1 : Int} {x2 : Int} {P : Int → Int → Int → Prop} (hI : qI σ α κ ρ) (r1 : (-2147483648) ≤ x1 ∧ x1 ≤ 2147483647) (r2 : (-2147483648) ≤ x2 ∧ x2 ≤ 2147483647) (p0 : ∀ x y : Int, (0 ≤ x ∧ x < 32) → (0 ≤ y ∧ y < 32) → P (qTb (α 24) x y) x y) (p1 : qCl P x1 x2) (p2 : 0 ≤ σ 23 1 ∧ σ 23 1 ≤ 60) : qm_T (qe L xs vb) (d + 3) 56 [.ref 16, .int (qz x1), .int (qz x2)] (qw σ α κ ρ) (fun r w' => ∃ σ' α', w' = qw σ' α' κ ρ ∧ qI σ' α' κ ρ ∧ qFr [(23, 1)] [24] σ α σ' α' ∧ ∃ v : Int, r = some (.int (qz v)) ∧ ((-2147483648) ≤ v ∧ v ≤ 2147483647) ∧ (((v = -1 ∧ ¬ ((0 ≤ x1 ∧ x1 < σ 17 6 ∧ 0 ≤ x2 ∧ x2 < σ 17 6 ∧ ¬ x1 = x2) ∧ ¬ α 24 (x1 * 32 + x2 : Int).toNat = 1) ∧ σ' 23 1 = σ 23 1) ∧ α' 24 = α 24) ∨ ((v = -3 ∧ ((0 ≤ x1 ∧ x1 < σ 17 6 ∧ 0 ≤ x2 ∧ x2 < σ 17 6 ∧ ¬ x1 = x2) ∧ ¬ α 24 (x1 * 32 + x2 : Int).toNat = 1) ∧ 60 ≤ σ 23 1 ∧ σ' 23 1 = σ 23 1) ∧ α' 24 = α 24) ∨ (((v = σ 23 1 + 1 ∧ ((0 ≤ x1 ∧ x1 < σ 17 6 ∧ 0 ≤ x2 ∧ x2 < σ 17 6 ∧ ¬ x1 = x2) ∧ ¬ α 24 (x1 * 32 + x2 : Int).toNat = 1) ∧ σ 23 1 < 60 ∧ σ' 23 1 = σ 23 1 + 1) ∧ qJn P (α 24) (α' 24) x1 x2 (σ 17 6) (σ 17 6) 0)))) := by
  refine qr_start (d := d + 2) qv_e56 (Nat.le_of_ble_eq_true rfl) ?_
  show qr_W (qe L xs vb) (d + 2) qx_e56 _ (0, [(0, .ref 16), (1, .int (qz x1)), (2, .int (qz x2))], [], _, 0, 0)
  have hF0 := qFr_rf [(23, 1)] [24] σ α
  have hz17_6 : 0 ≤ σ 17 6 ∧ σ 17 6 ≤ 32 := hI.1 17 6
  have hz23_1 : (-2147483648) ≤ σ 23 1 ∧ σ 23 1 ≤ 2147483647 := hI.1 23 1
  refine qr_aload_n 1 rfl rfl rfl ?_
  refine qr_get 4 rfl rfl rfl (by decide) rfl ?_
  refine qr_iload_n 5 rfl rfl rfl ?_
  refine qr_callN 8 rfl rfl rfl (sf_40_17 (d := d + 1) hI r1) ?_
  have hs3 : 0 ≤ σ 17 6 ∧ σ 17 6 ≤ 32 := hI.1 17 6
  rintro _ _ ⟨rfl, v1, rfl, hv1, hp2⟩
  show qr_W (qe L xs vb) (d + 2) qx_e56 _ (8, _, [.int (qz v1)], qw σ α κ ρ, 0, 0)
  refine qr_if_eq 27 11 rfl rfl rfl (qrg hv1 (by decide) (by decide)) (fun h4 => ?_) (fun h4 => ?_)
  · skip
    refine qr_iconst 28 rfl rfl ?_
    refine qr_retI rfl rfl (by decide) (by decide) ?_
    have hw5 : σ 23 1 = (σ 23 1) := rfl
    exact ⟨_, _, rfl, hI, hF0, (-1), rfl, (by decide), (Or.inl ⟨by omega, rfl⟩)⟩
  · skip
    refine qr_aload_n 12 rfl rfl rfl ?_
    refine qr_get 15 rfl rfl rfl (by decide) rfl ?_
    refine qr_iload_n 16 rfl rfl rfl ?_
    refine qr_callN 19 rfl rfl rfl (sf_40_17 (d := d + 1) hI r2) ?_
    have hs8 : 0 ≤ σ 17 6 ∧ σ 17 6 ≤ 32 := hI.1 17 6
    rintro _ _ ⟨rfl, v6, rfl, hv6, hp7⟩
    show qr_W (qe L xs vb) (d + 2) qx_e56 _ (19, _, [.int (qz v6)], qw σ α κ ρ, 0, 0)
    refine qr_if_eq 27 22 rfl rfl rfl (qrg hv6 (by decide) (by decide)) (fun h9 => ?_) (fun h9 => ?_)
    · skip
      refine qr_iconst 28 rfl rfl ?_
      refine qr_retI rfl rfl (by decide) (by decide) ?_
      have hw10 : σ 23 1 = (σ 23 1) := rfl
      exact ⟨_, _, rfl, hI, hF0, (-1), rfl, (by decide), (Or.inl ⟨by omega, rfl⟩)⟩
    · skip
      refine qr_iload_n 23 rfl rfl rfl ?_
      refine qr_iload_n 24 rfl rfl rfl ?_
      refine qr_icmp_ne 29 27 rfl rfl rfl r1 r2 (fun h11 => ?_) (fun h11 => ?_)
      · skip
        refine qr_aload_n 30 rfl rfl rfl ?_
        refine qr_get 33 rfl rfl rfl (by decide) rfl ?_
        refine qr_iload_n 34 rfl rfl rfl ?_
        refine qr_iload_n 35 rfl rfl rfl ?_
        refine qr_callN 38 rfl rfl rfl (sf_57_23x (d := d + 1) hI (by omega) (by omega)) ?_
        rintro _ _ ⟨rfl, v12, rfl, hv12, hp13⟩
        show qr_W (qe L xs vb) (d + 2) qx_e56 _ (38, _, [.int (qz v12)], qw σ α κ ρ, 0, 0)
        refine qr_iconst 39 rfl rfl ?_
        refine qr_icmp_ne 44 42 rfl rfl rfl (qrg hv12 (by decide) (by decide)) (by decide) (fun h14 => ?_) (fun h14 => ?_)
        · skip
          refine qr_aload_n 45 rfl rfl rfl ?_
          refine qr_get 48 rfl rfl rfl (by decide) rfl ?_
          refine qr_get 51 rfl rfl rfl (by decide) rfl ?_
          refine qr_bipush 53 rfl (by decide) rfl ?_
          refine qr_icmp_lt 59 56 rfl rfl rfl hz23_1 (by decide) (fun h15 => ?_) (fun h15 => ?_)
          · skip
            refine qr_aload_n 60 rfl rfl rfl ?_
            refine qr_get 63 rfl rfl rfl (by decide) rfl ?_
            refine qr_iload_n 64 rfl rfl rfl ?_
            refine qr_iload_n 65 rfl rfl rfl ?_
            refine qr_aload_n 66 rfl rfl rfl ?_
            refine qr_get 69 rfl rfl rfl (by decide) rfl ?_
            refine qr_get 72 rfl rfl rfl (by decide) rfl ?_
            have hs16 : (-2147483648) ≤ σ 23 1 ∧ σ 23 1 ≤ 2147483647 := hI.1 23 1
            refine qr_callN 75 rfl rfl rfl (sf_58_23x (d := d + 0) hI (by omega) (by omega) hz17_6 p0 p1 (by omega)) ?_
            rintro _ _ ⟨σ19, α20, rfl, hI21, hG22, hw18, rfl, hx17⟩
            have hF23 : qFr [(23, 1)] [24] σ α σ19 α20 := qFr_t hF0 hG22 (by decide) (by decide)
            have hs24 : (-2147483648) ≤ σ19 23 1 ∧ σ19 23 1 ≤ 2147483647 := hI21.1 23 1
            show qr_W (qe L xs vb) (d + 2) qx_e56 _ (75, _, [], qw σ19 α20 κ ρ, 0, 0)
            refine qr_aload_n 76 rfl rfl rfl ?_
            refine qr_get 79 rfl rfl rfl (by decide) rfl ?_
            refine qr_get 82 rfl rfl rfl (by decide) rfl ?_
            refine qr_retI rfl rfl (by decide) (by decide) ?_
            have hw25 : σ19 23 1 = (σ19 23 1) := rfl
            exact ⟨_, _, rfl, hI21, hF23, (σ19 23 1), rfl, (by omega), (Or.inr (Or.inr (⟨by omega, hx17⟩)))⟩
          · skip
            refine qr_bipush 58 rfl (by decide) rfl ?_
            refine qr_retI rfl rfl (by decide) (by decide) ?_
            have hw26 : σ 23 1 = (σ 23 1) := rfl
            exact ⟨_, _, rfl, hI, hF0, (-3), rfl, (by decide), (Or.inr (Or.inl ⟨by omega, rfl⟩))⟩
        · skip
          refine qr_iconst 43 rfl rfl ?_
          refine qr_retI rfl rfl (by decide) (by decide) ?_
          have hw27 : σ 23 1 = (σ 23 1) := rfl
          exact ⟨_, _, rfl, hI, hF0, (-1), rfl, (by decide), (Or.inl ⟨by omega, rfl⟩)⟩
      · skip
        refine qr_iconst 28 rfl rfl ?_
        refine qr_retI rfl rfl (by decide) (by decide) ?_
        have hw28 : σ 23 1 = (σ 23 1) := rfl
        exact ⟨_, _, rfl, hI, hF0, (-1), rfl, (by decide), (Or.inl ⟨by omega, rfl⟩)⟩

set_option maxHeartbeats 4000000 in
set_option maxRecDepth 20000 in
/-- OneRoofModel.areKin -/
theorem sf_185_86x {L : Nat} {xs : Nat → Int} {vb : Bool} {d : Nat} {σ α : Nat → Nat → Int} {κ : Nat → Option Nat} {ρ : Nat} {x1 : Int} {x2 : Int} (hI : qI σ α κ ρ) (r1 : (-2147483648) ≤ x1 ∧ x1 ≤ 2147483647) (r2 : (-2147483648) ≤ x2 ∧ x2 ≤ 2147483647) : qm_T (qe L xs vb) (d + 1) 185 [.ref 86, .int (qz x1), .int (qz x2)] (qw σ α κ ρ) (fun r w' => w' = qw σ α κ ρ ∧ ∃ v : Int, r = some (.int (qz v)) ∧ (0 ≤ v ∧ v ≤ 1) ∧ (v = 1 ↔ qAj (α 94) (α 95) (σ 86 11) x1 x2)) := by
  refine qr_start (d := d + 0) qv_e185 (Nat.le_of_ble_eq_true rfl) ?_
  show qr_W (qe L xs vb) (d + 0) qx_e185 _ (0, [(0, .ref 86), (1, .int (qz x1)), (2, .int (qz x2))], [], _, 0, 0)
  refine qr_iconst 1 rfl rfl ?_
  refine qr_istore_n _ 2 rfl (by decide) rfl rfl ?_
  have hL433 : ∀ (n : Nat) (ls : qm_L) (u430 : Int), 61 - u430 < (n : Int) → qm_get ls 0 = some (.ref 86) → qm_get ls 1 = some (.int (qz x1)) → qm_get ls 2 = some (.int (qz x2)) → qm_get ls 3 = some (.int (qz u430)) → (0 ≤ u430 ∧ u430 ≤ 61) → (∀ k : Nat, (k : Int) < u430 → ¬ ((α 94 k = x1 ∧ α 95 k = x2) ∨ (α 94 k = x2 ∧ α 95 k = x1))) → qr_W (qe L xs vb) (d + 0) qx_e185 (fun r w' => w' = qw σ α κ ρ ∧ ∃ v : Int, r = some (.int (qz v)) ∧ (0 ≤ v ∧ v ≤ 1) ∧ (v = 1 ↔ qAj (α 94) (α 95) (σ 86 11) x1 x2)) (2, ls, [], qw σ α κ ρ, 0, 0) := by
    intro n
    induction n with
    | zero => intro ls u430 hm g426 g427 g428 g429 hf431 hx432; exact False.elim (by omega)
    | succ n ih434 =>
      intro ls u430 hm g426 g427 g428 g429 hf431 hx432
      refine qr_iload_n 3 rfl g429 rfl ?_
      refine qr_aload_n 4 rfl g426 rfl ?_
      refine qr_get 7 rfl rfl rfl (by decide) rfl ?_
      have hs435 : 0 ≤ σ 86 11 ∧ σ 86 11 ≤ 61 := hI.1 86 11
      refine qr_icmp_ge 58 10 rfl rfl rfl (qrg hf431 (by decide) (by decide)) (qrg hs435 (by decide) (by decide)) (fun h436 => ?_) (fun h436 => ?_)
      · skip
        refine qr_iconst 59 rfl rfl ?_
        refine qr_retZ rfl rfl (Or.inl rfl) (by decide) (by decide) ?_
        exact ⟨rfl, 0, rfl, (by decide), ⟨fun h => absurd h (by decide), fun h => by obtain ⟨k, h1, h2⟩ := h; exact absurd h2 (hx432 k (by omega))⟩⟩
      · skip
        refine qr_aload_n 11 rfl g426 rfl ?_
        refine qr_get 14 rfl rfl rfl (by decide) rfl ?_
        refine qr_iload_n 15 rfl g429 rfl ?_
        refine qr_iaload 16 rfl rfl (by omega) (by decide) rfl ?_
        refine qr_topI (fun v437 hv437 => ?_)
        have hs438 : 0 ≤ v437 ∧ v437 ≤ 31 := by rw [hv437]; exact hI.2.1 94 _ (show _ < 61 by omega)
        refine qr_iload_n 17 rfl g427 rfl ?_
        refine qr_icmp_ne 30 20 rfl rfl rfl (qrg hs438 (by decide) (by decide)) r1 (fun h439 => ?_) (fun h439 => ?_)
        · skip
          refine qr_aload_n 31 rfl g426 rfl ?_
          refine qr_get 34 rfl rfl rfl (by decide) rfl ?_
          refine qr_iload_n 35 rfl g429 rfl ?_
          refine qr_iaload 36 rfl rfl (by omega) (by decide) rfl ?_
          refine qr_topI (fun v440 hv440 => ?_)
          have hs441 : 0 ≤ v440 ∧ v440 ≤ 31 := by rw [hv440]; exact hI.2.1 94 _ (show _ < 61 by omega)
          refine qr_iload_n 37 rfl g428 rfl ?_
          refine qr_icmp_ne 52 40 rfl rfl rfl (qrg hs441 (by decide) (by decide)) r2 (fun h442 => ?_) (fun h442 => ?_)
          · skip
            refine qr_iinc _ 55 rfl g429 (by decide) rfl rfl ?_
            refine qr_goto 2 rfl rfl ?_
            exact ih434 _ (u430 + 1) (by omega) (qm_gk g426 (by decide) (Or.inl (by decide))) (qm_gk g427 (by decide) (Or.inl (by decide))) (qm_gk g428 (by decide) (Or.inr rfl)) (qm_ge _ _ _) (by omega) (fun k hk => by by_cases e : k = (u430 : Int).toNat; (rw [e]; omega); (exact hx432 k (by omega)))
          · skip
            refine qr_aload_n 41 rfl g426 rfl ?_
            refine qr_get 44 rfl rfl rfl (by decide) rfl ?_
            refine qr_iload_n 45 rfl g429 rfl ?_
            refine qr_iaload 46 rfl rfl (by omega) (by decide) rfl ?_
            refine qr_topI (fun v443 hv443 => ?_)
            have hs444 : 0 ≤ v443 ∧ v443 ≤ 31 := by rw [hv443]; exact hI.2.1 95 _ (show _ < 61 by omega)
            refine qr_iload_n 47 rfl g427 rfl ?_
            refine qr_icmp_ne 52 50 rfl rfl rfl (qrg hs444 (by decide) (by decide)) r1 (fun h445 => ?_) (fun h445 => ?_)
            · skip
              refine qr_iinc _ 55 rfl g429 (by decide) rfl rfl ?_
              refine qr_goto 2 rfl rfl ?_
              exact ih434 _ (u430 + 1) (by omega) (qm_gk g426 (by decide) (Or.inl (by decide))) (qm_gk g427 (by decide) (Or.inl (by decide))) (qm_gk g428 (by decide) (Or.inr rfl)) (qm_ge _ _ _) (by omega) (fun k hk => by by_cases e : k = (u430 : Int).toNat; (rw [e]; omega); (exact hx432 k (by omega)))
            · skip
              refine qr_iconst 51 rfl rfl ?_
              refine qr_retZ rfl rfl (Or.inr rfl) (by decide) (by decide) ?_
              exact ⟨rfl, 1, rfl, (by decide), ⟨fun _ => ⟨(u430 : Int).toNat, by omega, by omega⟩, fun _ => rfl⟩⟩
        · skip
          refine qr_aload_n 21 rfl g426 rfl ?_
          refine qr_get 24 rfl rfl rfl (by decide) rfl ?_
          refine qr_iload_n 25 rfl g429 rfl ?_
          refine qr_iaload 26 rfl rfl (by omega) (by decide) rfl ?_
          refine qr_topI (fun v446 hv446 => ?_)
          have hs447 : 0 ≤ v446 ∧ v446 ≤ 31 := by rw [hv446]; exact hI.2.1 95 _ (show _ < 61 by omega)
          refine qr_iload_n 27 rfl g428 rfl ?_
          refine qr_icmp_eq 50 30 rfl rfl rfl (qrg hs447 (by decide) (by decide)) r2 (fun h448 => ?_) (fun h448 => ?_)
          · skip
            refine qr_iconst 51 rfl rfl ?_
            refine qr_retZ rfl rfl (Or.inr rfl) (by decide) (by decide) ?_
            exact ⟨rfl, 1, rfl, (by decide), ⟨fun _ => ⟨(u430 : Int).toNat, by omega, by omega⟩, fun _ => rfl⟩⟩
          · skip
            refine qr_aload_n 31 rfl g426 rfl ?_
            refine qr_get 34 rfl rfl rfl (by decide) rfl ?_
            refine qr_iload_n 35 rfl g429 rfl ?_
            refine qr_iaload 36 rfl rfl (by omega) (by decide) rfl ?_
            refine qr_topI (fun v449 hv449 => ?_)
            have hs450 : 0 ≤ v449 ∧ v449 ≤ 31 := by rw [hv449]; exact hI.2.1 94 _ (show _ < 61 by omega)
            refine qr_iload_n 37 rfl g428 rfl ?_
            refine qr_icmp_ne 52 40 rfl rfl rfl (qrg hs450 (by decide) (by decide)) r2 (fun h451 => ?_) (fun h451 => ?_)
            · skip
              refine qr_iinc _ 55 rfl g429 (by decide) rfl rfl ?_
              refine qr_goto 2 rfl rfl ?_
              exact ih434 _ (u430 + 1) (by omega) (qm_gk g426 (by decide) (Or.inl (by decide))) (qm_gk g427 (by decide) (Or.inl (by decide))) (qm_gk g428 (by decide) (Or.inr rfl)) (qm_ge _ _ _) (by omega) (fun k hk => by by_cases e : k = (u430 : Int).toNat; (rw [e]; omega); (exact hx432 k (by omega)))
            · skip
              refine qr_aload_n 41 rfl g426 rfl ?_
              refine qr_get 44 rfl rfl rfl (by decide) rfl ?_
              refine qr_iload_n 45 rfl g429 rfl ?_
              refine qr_iaload 46 rfl rfl (by omega) (by decide) rfl ?_
              refine qr_topI (fun v452 hv452 => ?_)
              have hs453 : 0 ≤ v452 ∧ v452 ≤ 31 := by rw [hv452]; exact hI.2.1 95 _ (show _ < 61 by omega)
              refine qr_iload_n 47 rfl g427 rfl ?_
              refine qr_icmp_ne 52 50 rfl rfl rfl (qrg hs453 (by decide) (by decide)) r1 (fun h454 => ?_) (fun h454 => ?_)
              · skip
                refine qr_iinc _ 55 rfl g429 (by decide) rfl rfl ?_
                refine qr_goto 2 rfl rfl ?_
                exact ih434 _ (u430 + 1) (by omega) (qm_gk g426 (by decide) (Or.inl (by decide))) (qm_gk g427 (by decide) (Or.inl (by decide))) (qm_gk g428 (by decide) (Or.inr rfl)) (qm_ge _ _ _) (by omega) (fun k hk => by by_cases e : k = (u430 : Int).toNat; (rw [e]; omega); (exact hx432 k (by omega)))
              · skip
                refine qr_iconst 51 rfl rfl ?_
                refine qr_retZ rfl rfl (Or.inr rfl) (by decide) (by decide) ?_
                exact ⟨rfl, 1, rfl, (by decide), ⟨fun _ => ⟨(u430 : Int).toNat, by omega, by omega⟩, fun _ => rfl⟩⟩
  exact hL433 ((61 - 0 + 1 : Int)).toNat _ 0 (by omega) rfl rfl rfl rfl (by decide) (fun k hk => by omega)

set_option maxHeartbeats 4000000 in
set_option maxRecDepth 20000 in
/-- OneRoofModel.kin -/
theorem sf_184_86x {L : Nat} {xs : Nat → Int} {vb : Bool} {d : Nat} {σ α : Nat → Nat → Int} {κ : Nat → Option Nat} {ρ : Nat} {x1 : Int} {x2 : Int} (hI : qI σ α κ ρ) (r1 : (-2147483648) ≤ x1 ∧ x1 ≤ 2147483647) (r2 : (-2147483648) ≤ x2 ∧ x2 ≤ 2147483647) (p0 : σ 86 11 ≤ 60) : qm_T (qe L xs vb) (d + 3) 184 [.ref 86, .int (qz x1), .int (qz x2)] (qw σ α κ ρ) (fun r w' => ∃ σ' α', w' = qw σ' α' κ ρ ∧ qI σ' α' κ ρ ∧ qFr [(86, 11), (86, 15)] [94, 95] σ α σ' α' ∧ ∃ v : Int, r = some (.int (qz v)) ∧ ((-2147483648) ≤ v ∧ v ≤ 2147483647) ∧ ((((v = -1 ∧ σ' 86 11 = σ 86 11) ∧ ((0 ≤ x1 ∧ x1 < σ 86 6 ∧ 0 ≤ x2 ∧ x2 < σ 86 6 ∧ ¬ x1 = x2) → qAj (α 94) (α 95) (σ 86 11) x1 x2)) ∧ α' 94 = α 94 ∧ α' 95 = α 95) ∨ (((v = -3 ∧ (0 ≤ x1 ∧ x1 < σ 86 6 ∧ 0 ≤ x2 ∧ x2 < σ 86 6 ∧ ¬ x1 = x2) ∧ 60 ≤ σ 86 11 ∧ σ' 86 11 = σ 86 11) ∧ ¬ qAj (α 94) (α 95) (σ 86 11) x1 x2) ∧ α' 94 = α 94 ∧ α' 95 = α 95) ∨ (((v = σ 86 11 + 1 ∧ (0 ≤ x1 ∧ x1 < σ 86 6 ∧ 0 ≤ x2 ∧ x2 < σ 86 6 ∧ ¬ x1 = x2) ∧ σ 86 11 < 60 ∧ σ' 86 11 = σ 86 11 + 1 ∧ σ' 86 15 = 0) ∧ ¬ qAj (α 94) (α 95) (σ 86 11) x1 x2) ∧ α' 94 = qzu (α 94) (v - 1 : Int).toNat (x1) ∧ α' 95 = qzu (α 95) (v - 1 : Int).toNat (x2)))) := by
  refine qr_start (d := d + 2) qv_e184 (Nat.le_of_ble_eq_true rfl) ?_
  show qr_W (qe L xs vb) (d + 2) qx_e184 _ (0, [(0, .ref 86), (1, .int (qz x1)), (2, .int (qz x2))], [], _, 0, 0)
  have hF0 := qFr_rf [(86, 11), (86, 15)] [94, 95] σ α
  have hz86_11 : 0 ≤ σ 86 11 ∧ σ 86 11 ≤ 61 := hI.1 86 11
  have hz86_6 : 0 ≤ σ 86 6 ∧ σ 86 6 ≤ 32 := hI.1 86 6
  refine qr_aload_n 1 rfl rfl rfl ?_
  refine qr_iload_n 2 rfl rfl rfl ?_
  refine qr_callN 5 rfl rfl rfl (sf_180_86 (d := d + 0) hI r1) ?_
  have hs3 : 0 ≤ σ 86 6 ∧ σ 86 6 ≤ 32 := hI.1 86 6
  rintro _ _ ⟨rfl, v1, rfl, hv1, hp2⟩
  show qr_W (qe L xs vb) (d + 2) qx_e184 _ (5, _, [.int (qz v1)], qw σ α κ ρ, 0, 0)
  refine qr_if_eq 30 8 rfl rfl rfl (qrg hv1 (by decide) (by decide)) (fun h4 => ?_) (fun h4 => ?_)
  · skip
    refine qr_iconst 31 rfl rfl ?_
    refine qr_retI rfl rfl (by decide) (by decide) ?_
    have hw5 : σ 86 11 = (σ 86 11) := rfl
    exact ⟨_, _, rfl, hI, hF0, (-1), rfl, (by decide), (Or.inl ⟨⟨by omega, fun h => False.elim (by omega)⟩, rfl, rfl⟩)⟩
  · skip
    refine qr_aload_n 9 rfl rfl rfl ?_
    refine qr_iload_n 10 rfl rfl rfl ?_
    refine qr_callN 13 rfl rfl rfl (sf_180_86 (d := d + 0) hI r2) ?_
    have hs8 : 0 ≤ σ 86 6 ∧ σ 86 6 ≤ 32 := hI.1 86 6
    rintro _ _ ⟨rfl, v6, rfl, hv6, hp7⟩
    show qr_W (qe L xs vb) (d + 2) qx_e184 _ (13, _, [.int (qz v6)], qw σ α κ ρ, 0, 0)
    refine qr_if_eq 30 16 rfl rfl rfl (qrg hv6 (by decide) (by decide)) (fun h9 => ?_) (fun h9 => ?_)
    · skip
      refine qr_iconst 31 rfl rfl ?_
      refine qr_retI rfl rfl (by decide) (by decide) ?_
      have hw10 : σ 86 11 = (σ 86 11) := rfl
      exact ⟨_, _, rfl, hI, hF0, (-1), rfl, (by decide), (Or.inl ⟨⟨by omega, fun h => False.elim (by omega)⟩, rfl, rfl⟩)⟩
    · skip
      refine qr_iload_n 17 rfl rfl rfl ?_
      refine qr_iload_n 18 rfl rfl rfl ?_
      refine qr_icmp_eq 30 21 rfl rfl rfl r1 r2 (fun h11 => ?_) (fun h11 => ?_)
      · skip
        refine qr_iconst 31 rfl rfl ?_
        refine qr_retI rfl rfl (by decide) (by decide) ?_
        have hw12 : σ 86 11 = (σ 86 11) := rfl
        exact ⟨_, _, rfl, hI, hF0, (-1), rfl, (by decide), (Or.inl ⟨⟨by omega, fun h => False.elim (by omega)⟩, rfl, rfl⟩)⟩
      · skip
        refine qr_aload_n 22 rfl rfl rfl ?_
        refine qr_iload_n 23 rfl rfl rfl ?_
        refine qr_iload_n 24 rfl rfl rfl ?_
        refine qr_callN 27 rfl rfl rfl (sf_185_86x (d := d + 1) hI r1 r2) ?_
        rintro _ _ ⟨rfl, v13, rfl, hv13, hx14⟩
        show qr_W (qe L xs vb) (d + 2) qx_e184 _ (27, _, [.int (qz v13)], qw σ α κ ρ, 0, 0)
        refine qr_if_eq 32 30 rfl rfl rfl (qrg hv13 (by decide) (by decide)) (fun h15 => ?_) (fun h15 => ?_)
        · skip
          refine qr_aload_n 33 rfl rfl rfl ?_
          refine qr_get 36 rfl rfl rfl (by decide) rfl ?_
          refine qr_bipush 38 rfl (by decide) rfl ?_
          refine qr_icmp_ne 44 41 rfl rfl rfl (qrg hz86_11 (by decide) (by decide)) (by decide) (fun h16 => ?_) (fun h16 => ?_)
          · skip
            refine qr_aload_n 45 rfl rfl rfl ?_
            refine qr_get 48 rfl rfl rfl (by decide) rfl ?_
            refine qr_aload_n 49 rfl rfl rfl ?_
            refine qr_get 52 rfl rfl rfl (by decide) rfl ?_
            refine qr_iload_n 53 rfl rfl rfl ?_
            refine qr_iastore 54 rfl (by decide) rfl (by omega) (by decide) rfl ?_
            refine qy_wA (qw_r α 94 (qzu (α 94) ((σ 86 11) : Int).toNat x1)) rfl (fun α17 e18 => ?_)
            have hI19 : qI σ α17 κ ρ := by rw [e18]; exact qI_r94 hI _ (show 0 ≤ x1 ∧ x1 ≤ 31 by omega) (by omega)
            have hF20 : qFr [(86, 11), (86, 15)] [94, 95] σ α σ α17 := by rw [e18]; exact qFr_r hF0 94 _ (by decide)
            refine qr_aload_n 55 rfl rfl rfl ?_
            refine qr_get 58 rfl rfl rfl (by decide) rfl ?_
            refine qr_aload_n 59 rfl rfl rfl ?_
            refine qr_get 62 rfl rfl rfl (by decide) rfl ?_
            refine qr_iload_n 63 rfl rfl rfl ?_
            refine qr_iastore 64 rfl (by decide) rfl (by omega) (by decide) rfl ?_
            refine qy_wA (qw_r α17 95 (qzu (α17 95) ((σ 86 11) : Int).toNat x2)) rfl (fun α21 e22 => ?_)
            have hI23 : qI σ α21 κ ρ := by rw [e22]; exact qI_r95 hI19 _ (show 0 ≤ x2 ∧ x2 ≤ 31 by omega) (by omega)
            have hF24 : qFr [(86, 11), (86, 15)] [94, 95] σ α σ α21 := by rw [e22]; exact qFr_r hF20 95 _ (by decide)
            refine qr_aload_n 65 rfl rfl rfl ?_
            refine qr_iconst 66 rfl rfl ?_
            refine qr_put 69 rfl (by decide) rfl (Nat.le_of_ble_eq_true rfl) (Nat.le_of_ble_eq_true rfl) (Or.inl rfl) (qr_fitZ rfl (Or.inl rfl)) rfl ?_
            refine qy_wS (qw_s σ 86 15 0) rfl (fun σ25 e26 => ?_)
            have hI27 : qI σ25 α21 κ ρ := by rw [e26]; exact qI_s15z hI23
            have hF28 : qFr [(86, 11), (86, 15)] [94, 95] σ α σ25 α21 := by rw [e26]; exact qFr_s hF24 86 15 _ (by decide)
            refine qr_aload_n 70 rfl rfl rfl ?_
            refine qr_dup 71 rfl rfl rfl ?_
            refine qr_get 74 rfl rfl rfl (by decide) rfl ?_
            refine qy_v (σ 86 11) ((congrFun (congrFun e26 86) 11).trans rfl) ?_
            refine qr_iconst 75 rfl rfl ?_
            refine qr_iadd 76 rfl rfl ?_
            refine qr_put 79 rfl (by decide) rfl (Nat.le_of_ble_eq_true rfl) (Nat.le_of_ble_eq_true rfl) (Or.inl rfl) (qr_fitI rfl _) rfl ?_
            refine qy_wS (qw_s σ25 86 11 ((σ 86 11) + 1)) rfl (fun σ29 e30 => ?_)
            have hI31 : qI σ29 α21 κ ρ := by rw [e30]; exact qI_s11 hI27 (by omega) (by have hw : σ25 86 15 = 0 := (congrFun (congrFun e26 86) 15).trans rfl; omega) (qE_new hI27 (p := x1) (q := x2) (k := (σ 86 11 : Int).toNat) (by have hw : σ25 86 11 = σ 86 11 := (congrFun (congrFun e26 86) 11).trans rfl; omega) (by rw [e22, qw_r_ne (by decide), e18, qw_r_eq]; unfold qzu; rw [if_pos rfl]) (by rw [e22, qw_r_eq]; unfold qzu; rw [if_pos rfl]) (by have hw : σ25 86 6 = σ 86 6 := (congrFun (congrFun e26 86) 6).trans rfl; omega) (by have hw : σ25 86 6 = σ 86 6 := (congrFun (congrFun e26 86) 6).trans rfl; omega))
            have hF32 : qFr [(86, 11), (86, 15)] [94, 95] σ α σ29 α21 := by rw [e30]; exact qFr_s hF28 86 11 _ (by decide)
            refine qr_aload_n 80 rfl rfl rfl ?_
            refine qr_get 83 rfl rfl rfl (by decide) rfl ?_
            refine qy_v ((σ 86 11) + 1) ((congrFun (congrFun e30 86) 11).trans rfl) ?_
            refine qr_retI rfl rfl (by decide) (by decide) ?_
            have hw33 : σ29 86 11 = ((σ 86 11) + 1) := (congrFun (congrFun e30 86) 11).trans rfl
            have hw34 : σ29 86 15 = 0 := (congrFun (congrFun e30 86) 15).trans ((congrFun (congrFun e26 86) 15).trans rfl)
            exact ⟨_, _, rfl, hI31, hF32, ((σ 86 11) + 1), rfl, (by omega), (Or.inr (Or.inr (⟨⟨by omega, fun h => absurd (hx14.2 h) (by omega)⟩, (((congrFun e22 94).trans ((qw_r_ne (by decide)).trans ((congrFun e18 94).trans (qw_r_eq.trans (congrArg (fun f => qzu f ((σ 86 11) : Int).toNat x1) rfl))))).trans (by congr 1; omega)), (((congrFun e22 95).trans (qw_r_eq.trans (congrArg (fun f => qzu f ((σ 86 11) : Int).toNat x2) ((congrFun e18 95).trans ((qw_r_ne (by decide)).trans rfl))))).trans (by congr 1; omega))⟩)))⟩
          · skip
            refine qr_bipush 43 rfl (by decide) rfl ?_
            refine qr_retI rfl rfl (by decide) (by decide) ?_
            have hw35 : σ 86 11 = (σ 86 11) := rfl
            exact ⟨_, _, rfl, hI, hF0, (-3), rfl, (by decide), (Or.inr (Or.inl ⟨⟨by omega, fun h => absurd (hx14.2 h) (by omega)⟩, rfl, rfl⟩))⟩
        · skip
          refine qr_iconst 31 rfl rfl ?_
          refine qr_retI rfl rfl (by decide) (by decide) ?_
          have hw36 : σ 86 11 = (σ 86 11) := rfl
          exact ⟨_, _, rfl, hI, hF0, (-1), rfl, (by decide), (Or.inl ⟨⟨by omega, fun _ => hx14.1 (by omega)⟩, rfl, rfl⟩)⟩
end
section
/-! the ties both sides hold alike: how many, who they tie, and that the class's table is right -/
def qE (σ α : Nat → Nat → Int) : Prop := ∀ j : Nat, (j : Int) < σ 86 11 → (0 ≤ α 94 j ∧ α 94 j < σ 86 6) ∧ (0 ≤ α 95 j ∧ α 95 j < σ 86 6)
def qR2 (σ α : Nat → Nat → Int) : Prop := σ 23 1 = σ 86 11 ∧ qE σ α ∧ ∀ x y : Int, (0 ≤ x ∧ x < 32) → (0 ≤ y ∧ y < 32) → qDi (α 94) (α 95) (σ 86 11) (qTb (α 24) x y) x y
def qPn (A B : Nat → Int) (m a b t x y : Int) : Prop := 0 ≤ t ∧ (t < 99 → qWk (qAk A m a) (qAk B m b) (m + 1) t.toNat x y)
theorem qDi_adj {A B : Nat → Int} {m t p q : Int} (h : qDi A B m t p q) (hpq : ¬ p = q) : t = 1 ↔ qAj A B m p q := by
  constructor
  · intro e
    subst e
    obtain ⟨r, h1, h2⟩ := h.2.1 (by decide)
    have e2 : p = r := h1
    subst e2
    exact h2
  · intro ha
    have h1 := h.2.2 1 (qWk_one ha)
    have h0 := h.1
    by_cases e : t = 0
    · subst e
      exact absurd (show p = q from h.2.1 (by decide)) hpq
    · omega
theorem qPn_cl {A B : Nat → Int} {m a b : Int} (hm : 0 ≤ m) : qCl (qPn A B m a b) a b := by
  intro t1 t2 x y hx hy
  constructor
  · rintro ⟨h1, h2⟩ ⟨h3, h4⟩
    refine ⟨by omega, fun hl => ?_⟩
    have w := qWk_cat (qWk_cat (h2 (by omega)) (qWk_one (qAj_new (A := A) (B := B) (a := a) (b := b) hm))) (h4 (by omega))
    rw [show (t1 + t2 + 1).toNat = t1.toNat + 1 + t2.toNat by omega]
    exact w
  · rintro ⟨h1, h2⟩ ⟨h3, h4⟩
    refine ⟨by omega, fun hl => ?_⟩
    have w := qWk_cat (qWk_cat (h2 (by omega)) (qWk_one (qAj_sym (qAj_new (A := A) (B := B) (a := a) (b := b) hm)))) (h4 (by omega))
    rw [show (t1 + t2 + 1).toNat = t1.toNat + 1 + t2.toNat by omega]
    exact w
theorem qPn_0 {A B : Nat → Int} {m a b : Int} {f : Nat → Int} (hm : 0 ≤ m) (h : ∀ x y : Int, (0 ≤ x ∧ x < 32) → (0 ≤ y ∧ y < 32) → qDi A B m (qTb f x y) x y) : ∀ x y : Int, (0 ≤ x ∧ x < 32) → (0 ≤ y ∧ y < 32) → qPn A B m a b (qTb f x y) x y :=
  fun x y hx hy => ⟨(h x y hx hy).1.1, fun hl => qWk_old hm ((h x y hx hy).2.1 hl)⟩
theorem qDi_far {A B : Nat → Int} {m t p q n : Int} (hE : ∀ j : Nat, (j : Int) < m → (0 ≤ A j ∧ A j < n) ∧ (0 ≤ B j ∧ B j < n)) (h : qDi A B m t p q) (hp : n ≤ p) (hpq : ¬ p = q) : t = 99 := by
  by_cases e : t < 99
  · refine absurd (qWk_iso (fun r ha => ?_) (h.2.1 e)) hpq
    obtain ⟨k, h1, h2⟩ := ha
    have h3 := hE k h1
    omega
  · have := h.1
    omega
theorem qDi_rev {A B : Nat → Int} {m t p q : Int} (h : qDi A B m t p q) : qDi A B m t q p := ⟨h.1, fun hl => qWk_rev (h.2.1 hl), fun n hw => h.2.2 n (qWk_rev hw)⟩
theorem rl_join {A B f g : Nat → Int} {m a b n : Int} (hm : 0 ≤ m) (ha : 0 ≤ a ∧ a < n) (hb : 0 ≤ b ∧ b < n) (hn : n ≤ 32) (hE : ∀ j : Nat, (j : Int) < m → (0 ≤ A j ∧ A j < n) ∧ (0 ≤ B j ∧ B j < n)) (h : ∀ x y : Int, (0 ≤ x ∧ x < 32) → (0 ≤ y ∧ y < 32) → qDi A B m (qTb f x y) x y) (hj : qJn (qPn A B m a b) f g a b n n 0) : ∀ x y : Int, (0 ≤ x ∧ x < 32) → (0 ≤ y ∧ y < 32) → qDi (qAk A m a) (qAk B m b) (m + 1) (qTb g x y) x y := by
  refine qDi_join (T := fun x y => qTb f x y) (U := fun x y => qTb g x y) hm (by omega) (by omega) (fun p q hq => ?_) h hj.1 (fun x y hx hy => hj.2.1 x y hx hy) (fun x y hx hy => ?_)
  · obtain ⟨k, h1, h2⟩ := hq
    have h3 := hE k h1
    omega
  · show qTb g x y ≤ qTb f x a + qTb f b y + 1 ∧ qTb g x y ≤ qTb f x b + qTb f a y + 1
    by_cases e1 : x < n
    · by_cases e2 : y < n
      · exact hj.2.2 x y hx.1 ⟨hy.1, e2⟩ (Or.inl e1)
      · have f1 := qDi_far hE (qDi_rev (h b y (by omega) hy)) (by omega) (by omega)
        have f2 := qDi_far hE (qDi_rev (h a y (by omega) hy)) (by omega) (by omega)
        have l := hj.1 x y hx hy
        have u := (h x y hx hy).1
        have u1 := (h x a hx (by omega)).1
        have u2 := (h x b hx (by omega)).1
        omega
    · have f1 := qDi_far hE (h x a hx (by omega)) (by omega) (by omega)
      have f2 := qDi_far hE (h x b hx (by omega)) (by omega) (by omega)
      have l := hj.1 x y hx hy
      have u := (h x y hx hy).1
      have u1 := (h b y (by omega) hy).1
      have u2 := (h a y (by omega) hy).1
      omega
set_option maxHeartbeats 4000000 in
theorem rl_kin {σ α σ1 α1 σ2 α2 : Nat → Nat → Int} {κ : Nat → Option Nat} {ρ : Nat} {x1 x2 v1 v2 : Int} (hI : qI σ α κ ρ) (hk : σ 86 11 ≤ 60) (hR : qR σ α) (hR2 : qR2 σ α) (hG1 : qFr [(23, 1)] [24] σ α σ1 α1) (hG2 : qFr [(86, 11), (86, 15)] [94, 95] σ1 α1 σ2 α2) (hx : ((v1 = -1 ∧ ¬ ((0 ≤ x1 ∧ x1 < σ 17 6 ∧ 0 ≤ x2 ∧ x2 < σ 17 6 ∧ ¬ x1 = x2) ∧ ¬ α 24 (x1 * 32 + x2 : Int).toNat = 1) ∧ σ1 23 1 = σ 23 1) ∧ α1 24 = α 24) ∨ ((v1 = -3 ∧ ((0 ≤ x1 ∧ x1 < σ 17 6 ∧ 0 ≤ x2 ∧ x2 < σ 17 6 ∧ ¬ x1 = x2) ∧ ¬ α 24 (x1 * 32 + x2 : Int).toNat = 1) ∧ 60 ≤ σ 23 1 ∧ σ1 23 1 = σ 23 1) ∧ α1 24 = α 24) ∨ (((v1 = σ 23 1 + 1 ∧ ((0 ≤ x1 ∧ x1 < σ 17 6 ∧ 0 ≤ x2 ∧ x2 < σ 17 6 ∧ ¬ x1 = x2) ∧ ¬ α 24 (x1 * 32 + x2 : Int).toNat = 1) ∧ σ 23 1 < 60 ∧ σ1 23 1 = σ 23 1 + 1) ∧ qJn (qPn (α 94) (α 95) (σ 86 11) x1 x2) (α 24) (α1 24) x1 x2 (σ 17 6) (σ 17 6) 0))) (hy : (((v2 = -1 ∧ σ2 86 11 = σ1 86 11) ∧ ((0 ≤ x1 ∧ x1 < σ1 86 6 ∧ 0 ≤ x2 ∧ x2 < σ1 86 6 ∧ ¬ x1 = x2) → qAj (α1 94) (α1 95) (σ1 86 11) x1 x2)) ∧ α2 94 = α1 94 ∧ α2 95 = α1 95) ∨ (((v2 = -3 ∧ (0 ≤ x1 ∧ x1 < σ1 86 6 ∧ 0 ≤ x2 ∧ x2 < σ1 86 6 ∧ ¬ x1 = x2) ∧ 60 ≤ σ1 86 11 ∧ σ2 86 11 = σ1 86 11) ∧ ¬ qAj (α1 94) (α1 95) (σ1 86 11) x1 x2) ∧ α2 94 = α1 94 ∧ α2 95 = α1 95) ∨ (((v2 = σ1 86 11 + 1 ∧ (0 ≤ x1 ∧ x1 < σ1 86 6 ∧ 0 ≤ x2 ∧ x2 < σ1 86 6 ∧ ¬ x1 = x2) ∧ σ1 86 11 < 60 ∧ σ2 86 11 = σ1 86 11 + 1 ∧ σ2 86 15 = 0) ∧ ¬ qAj (α1 94) (α1 95) (σ1 86 11) x1 x2) ∧ α2 94 = qzu (α1 94) (v2 - 1 : Int).toNat (x1) ∧ α2 95 = qzu (α1 95) (v2 - 1 : Int).toNat (x2))) : v1 = v2 ∧ qR σ2 α2 ∧ qR2 σ2 α2 := by
  have hr := qR_fr hG2 (by decide) (by decide) (qR_fr hG1 (by decide) (by decide) hR)
  have hn := hI.1 86 11
  have hn0 : 0 ≤ σ 86 11 := hn.1
  have hp : 0 ≤ σ 86 6 ∧ σ 86 6 ≤ 32 := hI.1 86 6
  have hq : σ 17 6 = σ 86 6 := hR.1
  obtain ⟨r1, r2, r3⟩ := hR2
  have c6 := hG1.1 86 6 (by decide)
  have c11 := hG1.1 86 11 (by decide)
  have c94 := hG1.2 94 (by decide)
  have c95 := hG1.2 95 (by decide)
  have d6 := hG2.1 86 6 (by decide)
  have d23 := hG2.1 23 1 (by decide)
  have d24 := hG2.2 24 (by decide)
  rw [c94, c95, c11, c6] at hy
  have ad : (0 ≤ x1 ∧ x1 < σ 86 6 ∧ 0 ≤ x2 ∧ x2 < σ 86 6 ∧ ¬ x1 = x2) → (α 24 (x1 * 32 + x2 : Int).toNat = 1 ↔ qAj (α 94) (α 95) (σ 86 11) x1 x2) := fun h => qDi_adj (r3 x1 x2 (by omega) (by omega)) (by omega)
  have same : σ2 23 1 = σ 23 1 → σ2 86 11 = σ 86 11 → α2 94 = α 94 → α2 95 = α 95 → α2 24 = α 24 → qR2 σ2 α2 := fun e1 e2 e3 e4 e5 => by
    unfold qR2 qE
    rw [e1, e2, e3, e4, e5, d6, c6]
    exact ⟨r1, r2, r3⟩
  rcases hx with ⟨x0, x24⟩ | ⟨x0, x24⟩ | ⟨x0, xj⟩
  · rcases hy with ⟨⟨y0, yi⟩, y94, y95⟩ | ⟨⟨y0, yi⟩, y94, y95⟩ | ⟨⟨y0, yi⟩, y94, y95⟩
    · exact ⟨by omega, hr, same (by omega) (by omega) y94 y95 (d24.trans x24)⟩
    · exact False.elim (yi ((ad (by omega)).1 (by omega)))
    · exact False.elim (yi ((ad (by omega)).1 (by omega)))
  · rcases hy with ⟨⟨y0, yi⟩, y94, y95⟩ | ⟨⟨y0, yi⟩, y94, y95⟩ | ⟨⟨y0, yi⟩, y94, y95⟩
    · exact absurd ((ad (by omega)).2 (yi (by omega))) (by omega)
    · exact ⟨by omega, hr, same (by omega) (by omega) y94 y95 (d24.trans x24)⟩
    · exact False.elim (by omega)
  · rcases hy with ⟨⟨y0, yi⟩, y94, y95⟩ | ⟨⟨y0, yi⟩, y94, y95⟩ | ⟨⟨y0, yi⟩, y94, y95⟩
    · exact absurd ((ad (by omega)).2 (yi (by omega))) (by omega)
    · exact False.elim (by omega)
    · have e : (v2 - 1 : Int).toNat = (σ 86 11).toNat := by omega
      rw [e] at y94 y95
      refine ⟨by omega, hr, by omega, ?_, ?_⟩
      · intro j hj
        rw [y94, y95]
        unfold qzu
        by_cases e2 : j = (σ 86 11).toNat
        · rw [if_pos e2, if_pos e2]
          omega
        · rw [if_neg e2, if_neg e2]
          have := r2 j (by omega)
          omega
      · rw [y94, y95, d24, show σ2 86 11 = σ 86 11 + 1 by omega]
        rw [hq] at xj
        exact rl_join hn0 (by omega) (by omega) hp.2 r2 r3 xj
end
section
theorem qR2_up {S : List (Nat × Nat)} {R : List Nat} {σ α σ' α' : Nat → Nat → Int} (hG : qFr S R σ α σ' α') (hs : [(23, 1), (86, 11)].all (fun x => !S.contains x) = true) (hr : [24, 94, 95].all (fun x => !R.contains x) = true) (h6 : σ 86 6 ≤ σ' 86 6) (h : qR2 σ α) : qR2 σ' α' := by
  have es : ∀ a k, (a, k) ∈ [(23, 1), (86, 11)] → σ' a k = σ a k := fun a k hm => hG.1 a k (fun hn => by
    have h1 := List.all_eq_true.mp hs (a, k) hm
    rw [List.contains_iff_mem.mpr hn] at h1
    exact absurd h1 (by decide))
  have er : ∀ a, a ∈ [24, 94, 95] → α' a = α a := fun a hm => hG.2 a (fun hn => by
    have h1 := List.all_eq_true.mp hr a hm
    rw [List.contains_iff_mem.mpr hn] at h1
    exact absurd h1 (by decide))
  obtain ⟨r1, r2, r3⟩ := h
  unfold qR2 qE
  rw [es 23 1 (by decide), es 86 11 (by decide), er 24 (by decide), er 94 (by decide), er 95 (by decide)]
  exact ⟨r1, fun j hj => by have := r2 j hj; omega, r3⟩
theorem qR2_fr {S : List (Nat × Nat)} {R : List Nat} {σ α σ' α' : Nat → Nat → Int} (hG : qFr S R σ α σ' α') (hs : [(23, 1), (86, 11), (86, 6)].all (fun x => !S.contains x) = true) (hr : [24, 94, 95].all (fun x => !R.contains x) = true) (h : qR2 σ α) : qR2 σ' α' := by
  have e6 : σ' 86 6 = σ 86 6 := hG.1 86 6 (fun hn => by
    have h1 := List.all_eq_true.mp hs (86, 6) (by decide)
    rw [List.contains_iff_mem.mpr hn] at h1
    exact absurd h1 (by decide))
  refine qR2_up hG ?_ hr (by omega) h
  rw [List.all_eq_true] at hs ⊢
  exact fun x hx => hs x (by revert x; decide)
theorem qR2_wd {S : List (Nat × Nat)} {R : List Nat} {σ α σ' α' : Nat → Nat → Int} (hG : qFr S R σ α σ' α') (hs : [(23, 1), (86, 6)].all (fun x => !S.contains x) = true) (hr : [24].all (fun x => !R.contains x) = true) (h11 : σ' 86 11 = σ 86 11) (hx : ∀ j : Nat, (j : Int) < σ 86 11 → α' 94 j = α 94 j ∧ α' 95 j = α 95 j) (h : qR2 σ α) : qR2 σ' α' := by
  have es : ∀ a k, (a, k) ∈ [(23, 1), (86, 6)] → σ' a k = σ a k := fun a k hm => hG.1 a k (fun hn => by
    have h1 := List.all_eq_true.mp hs (a, k) hm
    rw [List.contains_iff_mem.mpr hn] at h1
    exact absurd h1 (by decide))
  have er : ∀ a, a ∈ [24] → α' a = α a := fun a hm => hG.2 a (fun hn => by
    have h1 := List.all_eq_true.mp hr a hm
    rw [List.contains_iff_mem.mpr hn] at h1
    exact absurd h1 (by decide))
  obtain ⟨r1, r2, r3⟩ := h
  unfold qR2 qE
  rw [es 23 1 (by decide), es 86 6 (by decide), h11, er 24 (by decide)]
  refine ⟨r1, fun j hj => ?_, fun x y h1 h2 => qDi_cg (fun k hk => (hx k hk).1) (fun k hk => (hx k hk).2) (r3 x y h1 h2)⟩
  rw [(hx j hj).1, (hx j hj).2]
  exact r2 j hj

set_option maxHeartbeats 4000000 in
set_option maxRecDepth 20000 in
/-- OneRoofModel.wed -/
theorem sf_254_86x {L : Nat} {xs : Nat → Int} {vb : Bool} {d : Nat} {σ α : Nat → Nat → Int} {κ : Nat → Option Nat} {ρ : Nat} {x1 : Int} {x2 : Int} {x3 : Int} (hI : qI σ α κ ρ) (r1 : (-2147483648) ≤ x1 ∧ x1 ≤ 2147483647) (r2 : (-2147483648) ≤ x2 ∧ x2 ≤ 2147483647) (r3 : (-2147483648) ≤ x3 ∧ x3 ≤ 2147483647) (p0 : σ 86 11 ≤ 60) : qm_T (qe L xs vb) (d + 6) 254 [.ref 86, .int (qz x1), .int (qz x2), .int (qz x3)] (qw σ α κ ρ) (fun r w' => ∃ σ' α', w' = qw σ' α' κ ρ ∧ qI σ' α' κ ρ ∧ qFr [(86, 11), (86, 15), (86, 23)] [94, 95, 96, 119] σ α σ' α' ∧ σ' 86 11 = σ 86 11 ∧ ∃ v : Int, r = some (.int (qz v)) ∧ ((-2147483648) ≤ v ∧ v ≤ 2147483647) ∧ (∀ j : Nat, (j : Int) < σ 86 11 → α' 94 j = α 94 j ∧ α' 95 j = α 95 j)) := by
  refine qr_start (d := d + 5) qv_e254 (Nat.le_of_ble_eq_true rfl) ?_
  show qr_W (qe L xs vb) (d + 5) qx_e254 _ (0, [(0, .ref 86), (1, .int (qz x1)), (2, .int (qz x2)), (3, .int (qz x3))], [], _, 0, 0)
  have hF0 := qFr_rf [(86, 11), (86, 15), (86, 23)] [94, 95, 96, 119] σ α
  have hz86_11 : 0 ≤ σ 86 11 ∧ σ 86 11 ≤ 61 := hI.1 86 11
  have hz86_6 : 0 ≤ σ 86 6 ∧ σ 86 6 ≤ 32 := hI.1 86 6
  refine qr_aload_n 1 rfl rfl rfl ?_
  refine qr_iload_n 2 rfl rfl rfl ?_
  refine qr_callN 5 rfl rfl rfl (sf_191_86 (d := d + 2) hI r1) ?_
  have hs3 : 0 ≤ σ 86 6 ∧ σ 86 6 ≤ 32 := hI.1 86 6
  rintro _ _ ⟨rfl, v1, rfl, hv1, hp2⟩
  show qr_W (qe L xs vb) (d + 5) qx_e254 _ (5, _, [.int (qz v1)], qw σ α κ ρ, 0, 0)
  refine qr_if_eq 40 8 rfl rfl rfl (qrg hv1 (by decide) (by decide)) (fun h4 => ?_) (fun h4 => ?_)
  · skip
    refine qr_iconst 41 rfl rfl ?_
    refine qr_retI rfl rfl (by decide) (by decide) ?_
    exact ⟨_, _, rfl, hI, hF0, (by have hw : σ 86 11 = (σ 86 11) := rfl; omega), (-1), rfl, (by decide), (fun j hj => ⟨rfl, rfl⟩)⟩
  · skip
    refine qr_aload_n 9 rfl rfl rfl ?_
    refine qr_iload_n 10 rfl rfl rfl ?_
    refine qr_bipush 12 rfl (by decide) rfl ?_
    refine qr_idiv 13 rfl (by omega) (by decide) rfl ?_
    refine qr_iload_n 14 rfl rfl rfl ?_
    refine qr_bipush 16 rfl (by decide) rfl ?_
    refine qr_irem 17 rfl (by omega) (by decide) rfl ?_
    refine qr_callN 20 rfl rfl rfl (sf_185_86 (d := d + 4) hI (by omega) (by omega)) ?_
    rintro _ _ ⟨rfl, v5, rfl, hv5⟩
    show qr_W (qe L xs vb) (d + 5) qx_e254 _ (20, _, [.int (qz v5)], qw σ α κ ρ, 0, 0)
    refine qr_if_ne 40 23 rfl rfl rfl (qrg hv5 (by decide) (by decide)) (fun h6 => ?_) (fun h6 => ?_)
    · skip
      refine qr_iconst 41 rfl rfl ?_
      refine qr_retI rfl rfl (by decide) (by decide) ?_
      exact ⟨_, _, rfl, hI, hF0, (by have hw : σ 86 11 = (σ 86 11) := rfl; omega), (-1), rfl, (by decide), (fun j hj => ⟨rfl, rfl⟩)⟩
    · skip
      refine qr_iload_n 24 rfl rfl rfl ?_
      refine qr_callN 27 rfl rfl rfl (sf_192 (d := d + 3) hI r2) ?_
      rintro _ _ ⟨rfl, v7, rfl, hv7, hp8⟩
      show qr_W (qe L xs vb) (d + 5) qx_e254 _ (27, _, [.int (qz v7)], qw σ α κ ρ, 0, 0)
      refine qr_if_eq 40 30 rfl rfl rfl (qrg hv7 (by decide) (by decide)) (fun h9 => ?_) (fun h9 => ?_)
      · skip
        refine qr_iconst 41 rfl rfl ?_
        refine qr_retI rfl rfl (by decide) (by decide) ?_
        exact ⟨_, _, rfl, hI, hF0, (by have hw : σ 86 11 = (σ 86 11) := rfl; omega), (-1), rfl, (by decide), (fun j hj => ⟨rfl, rfl⟩)⟩
      · skip
        refine qr_iload_n 31 rfl rfl rfl ?_
        refine qr_i2l 32 rfl r3 rfl ?_
        refine qr_lconst 33 rfl rfl ?_
        refine qy_vl 0 rfl ?_
        refine qr_lconst 34 rfl rfl ?_
        refine qy_vl 1 rfl ?_
        refine qr_callN 37 rfl rfl rfl (sf_176 (d := d + 4) hI (qrg r3 (by decide) (by decide)) (by decide) (by decide)) ?_
        rintro _ _ ⟨rfl, v10, rfl, hv10, hp11⟩
        show qr_W (qe L xs vb) (d + 5) qx_e254 _ (37, _, [.int (qz v10)], qw σ α κ ρ, 0, 0)
        refine qr_if_ne 42 40 rfl rfl rfl (qrg hv10 (by decide) (by decide)) (fun h12 => ?_) (fun h12 => ?_)
        · skip
          refine qr_iconst 43 rfl rfl ?_
          refine qr_istore _ 45 rfl (by decide) rfl rfl ?_
          refine qr_iconst 46 rfl rfl ?_
          refine qr_istore _ 48 rfl (by decide) rfl rfl ?_
          have hL353407 : ∀ (n : Nat) (ls : qm_L) (u353394 u353396 : Int) (σ353397 α353398 : Nat → Nat → Int), 32 - u353396 < (n : Int) → qm_get ls 0 = some (.ref 86) → qm_get ls 1 = some (.int (qz x1)) → qm_get ls 2 = some (.int (qz x2)) → qm_get ls 3 = some (.int (qz x3)) → qm_get ls 4 = some (.int (qz u353394)) → qm_get ls 5 = some (.int (qz u353396)) → ((-2147483648) ≤ u353394 ∧ u353394 ≤ 2147483647) → (0 ≤ u353396 ∧ u353396 ≤ 32) → qI σ353397 α353398 κ ρ → qFr [(86, 11), (86, 15), (86, 23)] [94, 95, 96, 119] σ α σ353397 α353398 → σ353397 86 6 = (σ 86 6) → σ353397 86 11 = (σ 86 11) → α353398 94 = (α 94) → α353398 95 = (α 95) → qr_W (qe L xs vb) (d + 5) qx_e254 (fun r w' => ∃ σ' α', w' = qw σ' α' κ ρ ∧ qI σ' α' κ ρ ∧ qFr [(86, 11), (86, 15), (86, 23)] [94, 95, 96, 119] σ α σ' α' ∧ σ' 86 11 = σ 86 11 ∧ ∃ v : Int, r = some (.int (qz v)) ∧ ((-2147483648) ≤ v ∧ v ≤ 2147483647) ∧ (∀ j : Nat, (j : Int) < σ 86 11 → α' 94 j = α 94 j ∧ α' 95 j = α 95 j)) (48, ls, [], qw σ353397 α353398 κ ρ, 0, 0) := by
            intro n
            induction n with
            | zero => intro ls u353394 u353396 σ353397 α353398 hm g353389 g353390 g353391 g353392 g353393 g353395 hf353405 hf353406 hI353399 hF353400 hk353401 hk353402 hk353403 hk353404; exact False.elim (by omega)
            | succ n ih353408 =>
              intro ls u353394 u353396 σ353397 α353398 hm g353389 g353390 g353391 g353392 g353393 g353395 hf353405 hf353406 hI353399 hF353400 hk353401 hk353402 hk353403 hk353404
              refine qr_iload 50 rfl g353395 rfl ?_
              refine qr_aload_n 51 rfl g353389 rfl ?_
              refine qr_get 54 rfl rfl rfl (by decide) rfl ?_
              refine qy_v (σ 86 6) ((hk353401).trans rfl) ?_
              refine qr_icmp_ge 148 57 rfl rfl rfl (qrg hf353406 (by decide) (by decide)) (qrg hz86_6 (by decide) (by decide)) (fun h354819 => ?_) (fun h354819 => ?_)
              · skip
                refine qr_iload_n 149 rfl g353392 rfl ?_
                refine qr_iconst 150 rfl rfl ?_
                refine qr_icmp_ne 156 153 rfl rfl rfl r3 (by decide) (fun h354820 => ?_) (fun h354820 => ?_)
                · skip
                  refine qr_aload_n 157 rfl g353389 rfl ?_
                  refine qr_get 160 rfl rfl rfl (by decide) rfl ?_
                  refine qr_aload_n 161 rfl g353389 rfl ?_
                  refine qr_get 164 rfl rfl rfl (by decide) rfl ?_
                  refine qy_v (σ 86 11) ((hk353402).trans rfl) ?_
                  refine qr_iload_n 165 rfl g353390 rfl ?_
                  refine qr_bipush 167 rfl (by decide) rfl ?_
                  refine qr_idiv 168 rfl (by omega) (by decide) rfl ?_
                  refine qr_iastore 169 rfl (by decide) rfl (by omega) (by decide) rfl ?_
                  refine qy_wA (qw_r α353398 94 (qzu (α353398 94) ((σ 86 11) : Int).toNat (x1 / 100))) rfl (fun α354821 e354822 => ?_)
                  have hI354823 : qI σ353397 α354821 κ ρ := by rw [e354822]; exact qI_r94 hI353399 _ (show 0 ≤ (x1 / 100) ∧ (x1 / 100) ≤ 31 by omega) (by omega)
                  have hF354824 : qFr [(86, 11), (86, 15), (86, 23)] [94, 95, 96, 119] σ α σ353397 α354821 := by rw [e354822]; exact qFr_r hF353400 94 _ (by decide)
                  refine qr_aload_n 170 rfl g353389 rfl ?_
                  refine qr_get 173 rfl rfl rfl (by decide) rfl ?_
                  refine qr_aload_n 174 rfl g353389 rfl ?_
                  refine qr_get 177 rfl rfl rfl (by decide) rfl ?_
                  refine qy_v (σ 86 11) ((hk353402).trans rfl) ?_
                  refine qr_iload_n 178 rfl g353390 rfl ?_
                  refine qr_bipush 180 rfl (by decide) rfl ?_
                  refine qr_irem 181 rfl (by omega) (by decide) rfl ?_
                  refine qr_iastore 182 rfl (by decide) rfl (by omega) (by decide) rfl ?_
                  refine qy_wA (qw_r α354821 95 (qzu (α354821 95) ((σ 86 11) : Int).toNat (x1 % 100))) rfl (fun α354825 e354826 => ?_)
                  have hI354827 : qI σ353397 α354825 κ ρ := by rw [e354826]; exact qI_r95 hI354823 _ (show 0 ≤ (x1 % 100) ∧ (x1 % 100) ≤ 31 by omega) (by omega)
                  have hF354828 : qFr [(86, 11), (86, 15), (86, 23)] [94, 95, 96, 119] σ α σ353397 α354825 := by rw [e354826]; exact qFr_r hF354824 95 _ (by decide)
                  refine qr_aload_n 183 rfl g353389 rfl ?_
                  refine qr_dup 184 rfl rfl rfl ?_
                  refine qr_get 187 rfl rfl rfl (by decide) rfl ?_
                  refine qy_v (σ 86 11) ((hk353402).trans rfl) ?_
                  refine qr_iconst 188 rfl rfl ?_
                  refine qr_iadd 189 rfl rfl ?_
                  refine qr_put 192 rfl (by decide) rfl (Nat.le_of_ble_eq_true rfl) (Nat.le_of_ble_eq_true rfl) (Or.inl rfl) (qr_fitI rfl _) rfl ?_
                  refine qy_wS (qw_s σ353397 86 11 ((σ 86 11) + 1)) rfl (fun σ354829 e354830 => ?_)
                  have hF354832 : qFr [(86, 11), (86, 15), (86, 23)] [94, 95, 96, 119] σ α σ354829 α354825 := by rw [e354830]; exact qFr_s hF354828 86 11 _ (by decide)
                  refine qr_aload_n 193 rfl g353389 rfl ?_
                  refine qr_iconst 194 rfl rfl ?_
                  refine qr_put 197 rfl (by decide) rfl (Nat.le_of_ble_eq_true rfl) (Nat.le_of_ble_eq_true rfl) (Or.inl rfl) (qr_fitZ rfl (Or.inl rfl)) rfl ?_
                  refine qy_wS (qw_s σ354829 86 15 0) rfl (fun σ354833 e354834 => ?_)
                  have hI354835 : qI σ354833 α354825 κ ρ := by rw [e354834, e354830]; exact qI_s1115 hI354827 (by omega) (qE_new hI354827 (p := (x1 / 100)) (q := (x1 % 100)) (k := ((σ 86 11) : Int).toNat) (by have hw : σ353397 86 11 = (σ 86 11) := (hk353402).trans rfl; omega) (by rw [e354826, qw_r_ne (by decide), e354822, qw_r_eq]; unfold qzu; rw [if_pos rfl]) (by rw [e354826, qw_r_eq]; unfold qzu; rw [if_pos rfl]) (by have hw : σ353397 86 6 = (σ 86 6) := (hk353401).trans rfl; omega) (by have hw : σ353397 86 6 = (σ 86 6) := (hk353401).trans rfl; omega))
                  have hF354836 : qFr [(86, 11), (86, 15), (86, 23)] [94, 95, 96, 119] σ α σ354833 α354825 := by rw [e354834]; exact qFr_s hF354832 86 15 _ (by decide)
                  refine qr_iconst 198 rfl rfl ?_
                  refine qr_istore _ 200 rfl (by decide) rfl rfl ?_
                  refine qr_iconst 201 rfl rfl ?_
                  refine qr_istore _ 203 rfl (by decide) rfl rfl ?_
                  have hL385185 : ∀ (n : Nat) (ls : qm_L) (u385172 u385174 : Int) (σ385175 α385176 : Nat → Nat → Int), 32 - u385174 < (n : Int) → qm_get ls 0 = some (.ref 86) → qm_get ls 2 = some (.int (qz x2)) → qm_get ls 5 = some (.int (qz u385172)) → qm_get ls 6 = some (.int (qz u385174)) → ((-2147483648) ≤ u385172 ∧ u385172 ≤ 2147483647) → (0 ≤ u385174 ∧ u385174 ≤ 32) → qI σ385175 α385176 κ ρ → qFr [(86, 11), (86, 15), (86, 23)] [94, 95, 96, 119] σ α σ385175 α385176 → σ385175 86 6 = (σ 86 6) → σ385175 86 11 = ((σ 86 11) + 1) → α385176 94 = (qzu (α 94) ((σ 86 11) : Int).toNat (x1 / 100)) → α385176 95 = (qzu (α 95) ((σ 86 11) : Int).toNat (x1 % 100)) → qr_W (qe L xs vb) (d + 5) qx_e254 (fun r w' => ∃ σ' α', w' = qw σ' α' κ ρ ∧ qI σ' α' κ ρ ∧ qFr [(86, 11), (86, 15), (86, 23)] [94, 95, 96, 119] σ α σ' α' ∧ σ' 86 11 = σ 86 11 ∧ ∃ v : Int, r = some (.int (qz v)) ∧ ((-2147483648) ≤ v ∧ v ≤ 2147483647) ∧ (∀ j : Nat, (j : Int) < σ 86 11 → α' 94 j = α 94 j ∧ α' 95 j = α 95 j)) (203, ls, [], qw σ385175 α385176 κ ρ, 0, 0) := by
                    intro n
                    induction n with
                    | zero => intro ls u385172 u385174 σ385175 α385176 hm g385169 g385170 g385171 g385173 hf385183 hf385184 hI385177 hF385178 hk385179 hk385180 hk385181 hk385182; exact False.elim (by omega)
                    | succ n ih385186 =>
                      intro ls u385172 u385174 σ385175 α385176 hm g385169 g385170 g385171 g385173 hf385183 hf385184 hI385177 hF385178 hk385179 hk385180 hk385181 hk385182
                      refine qr_iload 205 rfl g385173 rfl ?_
                      refine qr_aload_n 206 rfl g385169 rfl ?_
                      refine qr_get 209 rfl rfl rfl (by decide) rfl ?_
                      refine qy_v (σ 86 6) ((hk385179).trans rfl) ?_
                      refine qr_icmp_ge 292 212 rfl rfl rfl (qrg hf385184 (by decide) (by decide)) (qrg hz86_6 (by decide) (by decide)) (fun h386267 => ?_) (fun h386267 => ?_)
                      · skip
                        refine qr_aload_n 293 rfl g385169 rfl ?_
                        refine qr_dup 294 rfl rfl rfl ?_
                        refine qr_get 297 rfl rfl rfl (by decide) rfl ?_
                        refine qy_v ((σ 86 11) + 1) ((hk385180).trans rfl) ?_
                        refine qr_iconst 298 rfl rfl ?_
                        refine qr_isub 299 rfl rfl ?_
                        refine qr_put 302 rfl (by decide) rfl (Nat.le_of_ble_eq_true rfl) (Nat.le_of_ble_eq_true rfl) (Or.inl rfl) (qr_fitI rfl _) rfl ?_
                        refine qy_wS (qw_s σ385175 86 11 (((σ 86 11) + 1) - 1)) rfl (fun σ386268 e386269 => ?_)
                        have hF386271 : qFr [(86, 11), (86, 15), (86, 23)] [94, 95, 96, 119] σ α σ386268 α385176 := by rw [e386269]; exact qFr_s hF385178 86 11 _ (by decide)
                        refine qr_aload_n 303 rfl g385169 rfl ?_
                        refine qr_iconst 304 rfl rfl ?_
                        refine qr_put 307 rfl (by decide) rfl (Nat.le_of_ble_eq_true rfl) (Nat.le_of_ble_eq_true rfl) (Or.inl rfl) (qr_fitZ rfl (Or.inl rfl)) rfl ?_
                        refine qy_wS (qw_s σ386268 86 15 0) rfl (fun σ386272 e386273 => ?_)
                        have hI386274 : qI σ386272 α385176 κ ρ := by rw [e386273, e386269]; exact qI_s1115 hI385177 (by omega) (qE_less hI385177 (by have hw : σ385175 86 11 = ((σ 86 11) + 1) := (hk385180).trans rfl; omega))
                        have hF386275 : qFr [(86, 11), (86, 15), (86, 23)] [94, 95, 96, 119] σ α σ386272 α385176 := by rw [e386273]; exact qFr_s hF386271 86 15 _ (by decide)
                        refine qr_iload 309 rfl g385171 rfl ?_
                        refine qr_retI rfl rfl (by decide) (by decide) ?_
                        exact ⟨_, _, rfl, hI386274, hF386275, (by have hw : σ386272 86 11 = (((σ 86 11) + 1) - 1) := (congrFun (congrFun e386273 86) 11).trans ((congrFun (congrFun e386269 86) 11).trans rfl); omega), u385172, rfl, hf385183, (fun j hj => by rw [hk385181, hk385182]; unfold qzu; rw [if_neg (by omega), if_neg (by omega)]; exact ⟨rfl, rfl⟩)⟩
                      · skip
                        refine qr_iconst 213 rfl rfl ?_
                        refine qr_istore _ 215 rfl (by decide) rfl rfl ?_
                        have hL387301 : ∀ (n : Nat) (ls : qm_L) (u387287 u387290 : Int) (σ387291 α387292 : Nat → Nat → Int), 31 - u387290 < (n : Int) → qm_get ls 0 = some (.ref 86) → qm_get ls 2 = some (.int (qz x2)) → qm_get ls 5 = some (.int (qz u387287)) → qm_get ls 6 = some (.int (qz u385174)) → qm_get ls 7 = some (.int (qz u387290)) → ((-2147483648) ≤ u387287 ∧ u387287 ≤ 2147483647) → (0 ≤ u387290 ∧ u387290 ≤ 31) → qI σ387291 α387292 κ ρ → qFr [(86, 11), (86, 15), (86, 23)] [94, 95, 96, 119] σ α σ387291 α387292 → σ387291 86 6 = (σ 86 6) → σ387291 86 11 = ((σ 86 11) + 1) → α387292 94 = (qzu (α 94) ((σ 86 11) : Int).toNat (x1 / 100)) → α387292 95 = (qzu (α 95) ((σ 86 11) : Int).toNat (x1 % 100)) → qr_W (qe L xs vb) (d + 5) qx_e254 (fun r w' => ∃ σ' α', w' = qw σ' α' κ ρ ∧ qI σ' α' κ ρ ∧ qFr [(86, 11), (86, 15), (86, 23)] [94, 95, 96, 119] σ α σ' α' ∧ σ' 86 11 = σ 86 11 ∧ ∃ v : Int, r = some (.int (qz v)) ∧ ((-2147483648) ≤ v ∧ v ≤ 2147483647) ∧ (∀ j : Nat, (j : Int) < σ 86 11 → α' 94 j = α 94 j ∧ α' 95 j = α 95 j)) (215, ls, [], qw σ387291 α387292 κ ρ, 0, 0) := by
                          intro n
                          induction n with
                          | zero => intro ls u387287 u387290 σ387291 α387292 hm g387284 g387285 g387286 g387288 g387289 hf387299 hf387300 hI387293 hF387294 hk387295 hk387296 hk387297 hk387298; exact False.elim (by omega)
                          | succ n ih387302 =>
                            intro ls u387287 u387290 σ387291 α387292 hm g387284 g387285 g387286 g387288 g387289 hf387299 hf387300 hI387293 hF387294 hk387295 hk387296 hk387297 hk387298
                            refine qr_iload 217 rfl g387289 rfl ?_
                            refine qr_iload 219 rfl g387288 rfl ?_
                            refine qr_icmp_ge 286 222 rfl rfl rfl (qrg hf387300 (by decide) (by decide)) (qrg hf385184 (by decide) (by decide)) (fun h387335 => ?_) (fun h387335 => ?_)
                            · skip
                              refine qr_iinc _ 289 rfl g387288 (by decide) rfl rfl ?_
                              refine qr_goto 203 rfl rfl ?_
                              exact ih385186 _ u387287 (u385174 + 1) σ387291 α387292 (by omega) (qm_gk g387284 (by decide) (Or.inl (by decide))) (qm_gk g387285 (by decide) (Or.inl (by decide))) (qm_gk g387286 (by decide) (Or.inr rfl)) (qm_ge _ _ _) hf387299 (by omega) hI387293 hF387294 ((hk387295).trans rfl) ((hk387296).trans rfl) hk387297 hk387298
                            · skip
                              refine qr_iload 224 rfl g387286 rfl ?_
                              refine qr_aload_n 225 rfl g387284 rfl ?_
                              refine qr_get 228 rfl rfl rfl (by decide) rfl ?_
                              refine qr_bipush 230 rfl (by decide) rfl ?_
                              refine qr_iload 232 rfl g387288 rfl ?_
                              refine qr_imul 233 rfl rfl ?_
                              refine qr_iload 235 rfl g387289 rfl ?_
                              refine qr_iadd 236 rfl rfl ?_
                              refine qr_baload 237 rfl (by decide) rfl (by omega) (by decide) rfl ?_
                              refine qr_topI (fun v387336 hv387336 => ?_)
                              have hs387337 : 0 ≤ v387336 ∧ v387336 ≤ 1 := by rw [hv387336]; exact hI387293.2.1 119 _ (show _ < 1024 by omega)
                              have hJ387360 : ∀ (ls : qm_L) (u387350 : Int) (σ387351 α387352 : Nat → Nat → Int), qm_get ls 0 = some (.ref 86) → qm_get ls 2 = some (.int (qz x2)) → qm_get ls 6 = some (.int (qz u385174)) → qm_get ls 7 = some (.int (qz u387290)) → (0 ≤ u387350 ∧ u387350 ≤ 1) → qI σ387351 α387352 κ ρ → qFr [(86, 11), (86, 15), (86, 23)] [94, 95, 96, 119] σ α σ387351 α387352 → σ387351 86 6 = (σ 86 6) → σ387351 86 11 = ((σ 86 11) + 1) → α387352 94 = (qzu (α 94) ((σ 86 11) : Int).toNat (x1 / 100)) → α387352 95 = (qzu (α 95) ((σ 86 11) : Int).toNat (x1 % 100)) → qr_W (qe L xs vb) (d + 5) qx_e254 (fun r w' => ∃ σ' α', w' = qw σ' α' κ ρ ∧ qI σ' α' κ ρ ∧ qFr [(86, 11), (86, 15), (86, 23)] [94, 95, 96, 119] σ α σ' α' ∧ σ' 86 11 = σ 86 11 ∧ ∃ v : Int, r = some (.int (qz v)) ∧ ((-2147483648) ≤ v ∧ v ≤ 2147483647) ∧ (∀ j : Nat, (j : Int) < σ 86 11 → α' 94 j = α 94 j ∧ α' 95 j = α 95 j)) (277, ls, [.int (qz u387350), .int (qz u387287)], qw σ387351 α387352 κ ρ, 0, 0) := by
                                intro ls u387350 σ387351 α387352 g387346 g387347 g387348 g387349 hf387359 hI387353 hF387354 hk387355 hk387356 hk387357 hk387358
                                refine qr_iadd 278 rfl rfl ?_
                                refine qy_can (fun v387361 hv387361 => ?_)
                                refine qr_istore _ 280 rfl (by decide) rfl rfl ?_
                                refine qr_iinc _ 283 rfl (qm_gk g387349 (by decide) (Or.inl (by decide))) (by decide) rfl rfl ?_
                                refine qr_goto 215 rfl rfl ?_
                                exact ih387302 _ v387361 (u387290 + 1) σ387351 α387352 (by omega) (qm_gk (qm_gk g387346 (by decide) (Or.inl (by decide))) (by decide) (Or.inl (by decide))) (qm_gk (qm_gk g387347 (by decide) (Or.inl (by decide))) (by decide) (Or.inl (by decide))) (qm_gk (qm_ge _ _ _) (by decide) (Or.inl (by decide))) (qm_gk (qm_gk g387348 (by decide) (Or.inl (by decide))) (by decide) (Or.inr rfl)) (qm_ge _ _ _) hv387361 (by omega) hI387353 hF387354 ((hk387355).trans rfl) ((hk387356).trans rfl) hk387357 hk387358
                              refine qr_if_ne 276 240 rfl rfl rfl (qrg hs387337 (by decide) (by decide)) (fun h387362 => ?_) (fun h387362 => ?_)
                              · skip
                                refine qr_iconst 277 rfl rfl ?_
                                exact hJ387360 _ 0 σ387291 α387292 g387284 g387285 g387288 g387289 (by decide) hI387293 hF387294 ((hk387295).trans rfl) ((hk387296).trans rfl) hk387297 hk387298
                              · skip
                                refine qr_aload_n 241 rfl g387284 rfl ?_
                                refine qr_iload 243 rfl g387288 rfl ?_
                                refine qr_callN 246 rfl rfl rfl (sf_181_86 (d := d + 4) hI387293 (qrg hf385184 (by decide) (by decide))) ?_
                                rintro _ _ ⟨rfl, v387363, rfl, hv387363⟩
                                show qr_W (qe L xs vb) (d + 5) qx_e254 _ (246, _, [.int (qz v387363), .int (qz u387287)], qw σ387291 α387292 κ ρ, 0, 0)
                                refine qr_if_ne 276 249 rfl rfl rfl (qrg hv387363 (by decide) (by decide)) (fun h387364 => ?_) (fun h387364 => ?_)
                                · skip
                                  refine qr_iconst 277 rfl rfl ?_
                                  exact hJ387360 _ 0 σ387291 α387292 g387284 g387285 g387288 g387289 (by decide) hI387293 hF387294 ((hk387295).trans rfl) ((hk387296).trans rfl) hk387297 hk387298
                                · skip
                                  refine qr_aload_n 250 rfl g387284 rfl ?_
                                  refine qr_iload 252 rfl g387289 rfl ?_
                                  refine qr_callN 255 rfl rfl rfl (sf_181_86 (d := d + 4) hI387293 (qrg hf387300 (by decide) (by decide))) ?_
                                  rintro _ _ ⟨rfl, v387365, rfl, hv387365⟩
                                  show qr_W (qe L xs vb) (d + 5) qx_e254 _ (255, _, [.int (qz v387365), .int (qz u387287)], qw σ387291 α387292 κ ρ, 0, 0)
                                  refine qr_if_ne 276 258 rfl rfl rfl (qrg hv387365 (by decide) (by decide)) (fun h387366 => ?_) (fun h387366 => ?_)
                                  · skip
                                    refine qr_iconst 277 rfl rfl ?_
                                    exact hJ387360 _ 0 σ387291 α387292 g387284 g387285 g387288 g387289 (by decide) hI387293 hF387294 ((hk387295).trans rfl) ((hk387296).trans rfl) hk387297 hk387298
                                  · skip
                                    refine qr_aload_n 259 rfl g387284 rfl ?_
                                    refine qr_iload 261 rfl g387288 rfl ?_
                                    refine qr_iload 263 rfl g387289 rfl ?_
                                    refine qr_iload_n 264 rfl g387285 rfl ?_
                                    refine qr_callN 267 rfl rfl rfl (sf_195_86 (d := d + 0) hI387293 (by omega) hf387300 r2) ?_
                                    rintro _ _ ⟨σ387368, α387369, rfl, hI387370, hG387371, v387367, rfl, hv387367⟩
                                    have hF387372 : qFr [(86, 11), (86, 15), (86, 23)] [94, 95, 96, 119] σ α σ387368 α387369 := qFr_t hF387294 hG387371 (by decide) (by decide)
                                    show qr_W (qe L xs vb) (d + 5) qx_e254 _ (267, _, [.int (qz v387367), .int (qz u387287)], qw σ387368 α387369 κ ρ, 0, 0)
                                    refine qr_bipush 269 rfl (by decide) rfl ?_
                                    refine qr_icmp_eq 276 272 rfl rfl rfl hv387367 (by decide) (fun h387373 => ?_) (fun h387373 => ?_)
                                    · skip
                                      refine qr_iconst 277 rfl rfl ?_
                                      exact hJ387360 _ 0 σ387368 α387369 g387284 g387285 g387288 g387289 (by decide) hI387370 hF387372 ((hG387371.1 86 6 (by decide)).trans ((hk387295).trans rfl)) ((hG387371.1 86 11 (by decide)).trans ((hk387296).trans rfl)) ((hG387371.2 94 (by decide)).trans hk387297) ((hG387371.2 95 (by decide)).trans hk387298)
                                    · skip
                                      refine qr_iconst 273 rfl rfl ?_
                                      refine qr_goto 277 rfl rfl ?_
                                      exact hJ387360 _ 1 σ387368 α387369 g387284 g387285 g387288 g387289 (by decide) hI387370 hF387372 ((hG387371.1 86 6 (by decide)).trans ((hk387295).trans rfl)) ((hG387371.1 86 11 (by decide)).trans ((hk387296).trans rfl)) ((hG387371.2 94 (by decide)).trans hk387297) ((hG387371.2 95 (by decide)).trans hk387298)
                        exact hL387301 ((31 - 0 + 1 : Int)).toNat _ u385172 0 σ385175 α385176 (by omega) (qm_gk g385169 (by decide) (Or.inl (by decide))) (qm_gk g385170 (by decide) (Or.inl (by decide))) (qm_gk g385171 (by decide) (Or.inl (by decide))) (qm_gk g385173 (by decide) (Or.inr rfl)) (qm_ge _ _ _) hf385183 (by decide) hI385177 hF385178 ((hk385179).trans rfl) ((hk385180).trans rfl) hk385181 hk385182
                  exact hL385185 ((32 - 0 + 1 : Int)).toNat _ 0 0 σ354833 α354825 (by omega) (qm_gk (qm_gk g353389 (by decide) (Or.inl (by decide))) (by decide) (Or.inl (by decide))) (qm_gk (qm_gk g353391 (by decide) (Or.inl (by decide))) (by decide) (Or.inl (by decide))) (qm_gk (qm_ge _ _ _) (by decide) (Or.inr rfl)) (qm_ge _ _ _) (by decide) (by decide) hI354835 hF354836 ((congrFun (congrFun e354834 86) 6).trans ((congrFun (congrFun e354830 86) 6).trans ((hk353401).trans rfl))) ((congrFun (congrFun e354834 86) 11).trans ((congrFun (congrFun e354830 86) 11).trans rfl)) ((congrFun e354826 94).trans ((qw_r_ne (by decide)).trans ((congrFun e354822 94).trans (qw_r_eq.trans (congrArg (fun f => qzu f ((σ 86 11) : Int).toNat (x1 / 100)) hk353403))))) ((congrFun e354826 95).trans (qw_r_eq.trans (congrArg (fun f => qzu f ((σ 86 11) : Int).toNat (x1 % 100)) ((congrFun e354822 95).trans ((qw_r_ne (by decide)).trans hk353404)))))
                · skip
                  refine qr_iload 155 rfl g353393 rfl ?_
                  refine qr_retI rfl rfl (by decide) (by decide) ?_
                  exact ⟨_, _, rfl, hI353399, hF353400, (by have hw : σ353397 86 11 = (σ 86 11) := (hk353402).trans rfl; omega), u353394, rfl, hf353405, (fun j hj => ⟨congrFun hk353403 j, congrFun hk353404 j⟩)⟩
              · skip
                refine qr_iconst 58 rfl rfl ?_
                refine qr_istore _ 60 rfl (by decide) rfl rfl ?_
                have hL388709 : ∀ (n : Nat) (ls : qm_L) (u388695 u388698 : Int) (σ388699 α388700 : Nat → Nat → Int), 31 - u388698 < (n : Int) → qm_get ls 0 = some (.ref 86) → qm_get ls 1 = some (.int (qz x1)) → qm_get ls 2 = some (.int (qz x2)) → qm_get ls 3 = some (.int (qz x3)) → qm_get ls 4 = some (.int (qz u388695)) → qm_get ls 5 = some (.int (qz u353396)) → qm_get ls 6 = some (.int (qz u388698)) → ((-2147483648) ≤ u388695 ∧ u388695 ≤ 2147483647) → (0 ≤ u388698 ∧ u388698 ≤ 31) → qI σ388699 α388700 κ ρ → qFr [(86, 11), (86, 15), (86, 23)] [94, 95, 96, 119] σ α σ388699 α388700 → σ388699 86 6 = (σ 86 6) → σ388699 86 11 = (σ 86 11) → α388700 94 = (α 94) → α388700 95 = (α 95) → qr_W (qe L xs vb) (d + 5) qx_e254 (fun r w' => ∃ σ' α', w' = qw σ' α' κ ρ ∧ qI σ' α' κ ρ ∧ qFr [(86, 11), (86, 15), (86, 23)] [94, 95, 96, 119] σ α σ' α' ∧ σ' 86 11 = σ 86 11 ∧ ∃ v : Int, r = some (.int (qz v)) ∧ ((-2147483648) ≤ v ∧ v ≤ 2147483647) ∧ (∀ j : Nat, (j : Int) < σ 86 11 → α' 94 j = α 94 j ∧ α' 95 j = α 95 j)) (60, ls, [], qw σ388699 α388700 κ ρ, 0, 0) := by
                  intro n
                  induction n with
                  | zero => intro ls u388695 u388698 σ388699 α388700 hm g388690 g388691 g388692 g388693 g388694 g388696 g388697 hf388707 hf388708 hI388701 hF388702 hk388703 hk388704 hk388705 hk388706; exact False.elim (by omega)
                  | succ n ih388710 =>
                    intro ls u388695 u388698 σ388699 α388700 hm g388690 g388691 g388692 g388693 g388694 g388696 g388697 hf388707 hf388708 hI388701 hF388702 hk388703 hk388704 hk388705 hk388706
                    refine qr_iload 62 rfl g388697 rfl ?_
                    refine qr_iload 64 rfl g388696 rfl ?_
                    refine qr_icmp_ge 142 67 rfl rfl rfl (qrg hf388708 (by decide) (by decide)) (qrg hf353406 (by decide) (by decide)) (fun h388754 => ?_) (fun h388754 => ?_)
                    · skip
                      refine qr_iinc _ 145 rfl g388696 (by decide) rfl rfl ?_
                      refine qr_goto 48 rfl rfl ?_
                      exact ih353408 _ u388695 (u353396 + 1) σ388699 α388700 (by omega) (qm_gk g388690 (by decide) (Or.inl (by decide))) (qm_gk g388691 (by decide) (Or.inl (by decide))) (qm_gk g388692 (by decide) (Or.inl (by decide))) (qm_gk g388693 (by decide) (Or.inl (by decide))) (qm_gk g388694 (by decide) (Or.inr rfl)) (qm_ge _ _ _) hf388707 (by omega) hI388701 hF388702 ((hk388703).trans rfl) ((hk388704).trans rfl) hk388705 hk388706
                    · skip
                      refine qr_aload_n 68 rfl g388690 rfl ?_
                      refine qr_iload 70 rfl g388696 rfl ?_
                      refine qr_callN 73 rfl rfl rfl (sf_181_86 (d := d + 4) hI388701 (qrg hf353406 (by decide) (by decide))) ?_
                      rintro _ _ ⟨rfl, v388755, rfl, hv388755⟩
                      show qr_W (qe L xs vb) (d + 5) qx_e254 _ (73, _, [.int (qz v388755)], qw σ388699 α388700 κ ρ, 0, 0)
                      have hJ388780 : ∀ (ls : qm_L) (u388770 : Int) (σ388771 α388772 : Nat → Nat → Int), qm_get ls 0 = some (.ref 86) → qm_get ls 1 = some (.int (qz x1)) → qm_get ls 2 = some (.int (qz x2)) → qm_get ls 3 = some (.int (qz x3)) → qm_get ls 4 = some (.int (qz u388695)) → qm_get ls 5 = some (.int (qz u353396)) → qm_get ls 6 = some (.int (qz u388698)) → (0 ≤ u388770 ∧ u388770 ≤ 1) → qI σ388771 α388772 κ ρ → qFr [(86, 11), (86, 15), (86, 23)] [94, 95, 96, 119] σ α σ388771 α388772 → σ388771 86 6 = (σ 86 6) → σ388771 86 11 = (σ 86 11) → α388772 94 = (α 94) → α388772 95 = (α 95) → qr_W (qe L xs vb) (d + 5) qx_e254 (fun r w' => ∃ σ' α', w' = qw σ' α' κ ρ ∧ qI σ' α' κ ρ ∧ qFr [(86, 11), (86, 15), (86, 23)] [94, 95, 96, 119] σ α σ' α' ∧ σ' 86 11 = σ 86 11 ∧ ∃ v : Int, r = some (.int (qz v)) ∧ ((-2147483648) ≤ v ∧ v ≤ 2147483647) ∧ (∀ j : Nat, (j : Int) < σ 86 11 → α' 94 j = α 94 j ∧ α' 95 j = α 95 j)) (104, ls, [.int (qz u388770)], qw σ388771 α388772 κ ρ, 0, 0) := by
                        intro ls u388770 σ388771 α388772 g388763 g388764 g388765 g388766 g388767 g388768 g388769 hf388779 hI388773 hF388774 hk388775 hk388776 hk388777 hk388778
                        refine qr_istore _ 106 rfl (by decide) rfl rfl ?_
                        refine qr_aload_n 107 rfl (qm_gk g388763 (by decide) (Or.inl (by decide))) rfl ?_
                        refine qr_get 110 rfl rfl rfl (by decide) rfl ?_
                        refine qr_bipush 112 rfl (by decide) rfl ?_
                        refine qr_iload 114 rfl (qm_gk g388768 (by decide) (Or.inl (by decide))) rfl ?_
                        refine qr_imul 115 rfl rfl ?_
                        refine qr_iload 117 rfl (qm_gk g388769 (by decide) (Or.inr rfl)) rfl ?_
                        refine qr_iadd 118 rfl rfl ?_
                        refine qr_iload 120 rfl (qm_ge _ _ _) rfl ?_
                        refine qr_bastore 121 rfl (by decide) rfl (by omega) (by decide) (by omega) rfl ?_
                        refine qy_wA (qw_r α388772 119 (qzu (α388772 119) (((32 * u353396) + u388698) : Int).toNat u388770)) rfl (fun α388781 e388782 => ?_)
                        have hI388783 : qI σ388771 α388781 κ ρ := by rw [e388782]; exact qI_r hI388773 119 _ rfl (show 0 ≤ u388770 ∧ u388770 ≤ 1 by omega)
                        have hF388784 : qFr [(86, 11), (86, 15), (86, 23)] [94, 95, 96, 119] σ α σ388771 α388781 := by rw [e388782]; exact qFr_r hF388774 119 _ (by decide)
                        refine qr_iload 123 rfl (qm_gk g388767 (by decide) (Or.inl (by decide))) rfl ?_
                        refine qr_iload 125 rfl (qm_ge _ _ _) rfl ?_
                        have hJ388793 : ∀ (ls : qm_L) (u388791 : Int), qm_get ls 0 = some (.ref 86) → qm_get ls 1 = some (.int (qz x1)) → qm_get ls 2 = some (.int (qz x2)) → qm_get ls 3 = some (.int (qz x3)) → qm_get ls 5 = some (.int (qz u353396)) → qm_get ls 6 = some (.int (qz u388698)) → (0 ≤ u388791 ∧ u388791 ≤ 1) → qr_W (qe L xs vb) (d + 5) qx_e254 (fun r w' => ∃ σ' α', w' = qw σ' α' κ ρ ∧ qI σ' α' κ ρ ∧ qFr [(86, 11), (86, 15), (86, 23)] [94, 95, 96, 119] σ α σ' α' ∧ σ' 86 11 = σ 86 11 ∧ ∃ v : Int, r = some (.int (qz v)) ∧ ((-2147483648) ≤ v ∧ v ≤ 2147483647) ∧ (∀ j : Nat, (j : Int) < σ 86 11 → α' 94 j = α 94 j ∧ α' 95 j = α 95 j)) (133, ls, [.int (qz u388791), .int (qz u388695)], qw σ388771 α388781 κ ρ, 0, 0) := by
                          intro ls u388791 g388785 g388786 g388787 g388788 g388789 g388790 hf388792
                          refine qr_iadd 134 rfl rfl ?_
                          refine qy_can (fun v388794 hv388794 => ?_)
                          refine qr_istore _ 136 rfl (by decide) rfl rfl ?_
                          refine qr_iinc _ 139 rfl (qm_gk g388790 (by decide) (Or.inl (by decide))) (by decide) rfl rfl ?_
                          refine qr_goto 60 rfl rfl ?_
                          exact ih388710 _ v388794 (u388698 + 1) σ388771 α388781 (by omega) (qm_gk (qm_gk g388785 (by decide) (Or.inl (by decide))) (by decide) (Or.inl (by decide))) (qm_gk (qm_gk g388786 (by decide) (Or.inl (by decide))) (by decide) (Or.inl (by decide))) (qm_gk (qm_gk g388787 (by decide) (Or.inl (by decide))) (by decide) (Or.inl (by decide))) (qm_gk (qm_gk g388788 (by decide) (Or.inr rfl)) (by decide) (Or.inl (by decide))) (qm_gk (qm_ge _ _ _) (by decide) (Or.inl (by decide))) (qm_gk (qm_gk g388789 (by decide) (Or.inl (by decide))) (by decide) (Or.inr rfl)) (qm_ge _ _ _) hv388794 (by omega) hI388783 hF388784 ((hk388775).trans rfl) ((hk388776).trans rfl) ((congrFun e388782 94).trans ((qw_r_ne (by decide)).trans hk388777)) ((congrFun e388782 95).trans ((qw_r_ne (by decide)).trans hk388778))
                        refine qr_if_eq 132 128 rfl rfl rfl (qrg hf388779 (by decide) (by decide)) (fun h388795 => ?_) (fun h388795 => ?_)
                        · skip
                          refine qr_iconst 133 rfl rfl ?_
                          exact hJ388793 _ 0 (qm_gk g388763 (by decide) (Or.inl (by decide))) (qm_gk g388764 (by decide) (Or.inl (by decide))) (qm_gk g388765 (by decide) (Or.inl (by decide))) (qm_gk g388766 (by decide) (Or.inl (by decide))) (qm_gk g388768 (by decide) (Or.inl (by decide))) (qm_gk g388769 (by decide) (Or.inr rfl)) (by decide)
                        · skip
                          refine qr_iconst 129 rfl rfl ?_
                          refine qr_goto 133 rfl rfl ?_
                          exact hJ388793 _ 1 (qm_gk g388763 (by decide) (Or.inl (by decide))) (qm_gk g388764 (by decide) (Or.inl (by decide))) (qm_gk g388765 (by decide) (Or.inl (by decide))) (qm_gk g388766 (by decide) (Or.inl (by decide))) (qm_gk g388768 (by decide) (Or.inl (by decide))) (qm_gk g388769 (by decide) (Or.inr rfl)) (by decide)
                      refine qr_if_ne 103 76 rfl rfl rfl (qrg hv388755 (by decide) (by decide)) (fun h388796 => ?_) (fun h388796 => ?_)
                      · skip
                        refine qr_iconst 104 rfl rfl ?_
                        exact hJ388780 _ 0 σ388699 α388700 g388690 g388691 g388692 g388693 g388694 g388696 g388697 (by decide) hI388701 hF388702 ((hk388703).trans rfl) ((hk388704).trans rfl) hk388705 hk388706
                      · skip
                        refine qr_aload_n 77 rfl g388690 rfl ?_
                        refine qr_iload 79 rfl g388697 rfl ?_
                        refine qr_callN 82 rfl rfl rfl (sf_181_86 (d := d + 4) hI388701 (qrg hf388708 (by decide) (by decide))) ?_
                        rintro _ _ ⟨rfl, v388797, rfl, hv388797⟩
                        show qr_W (qe L xs vb) (d + 5) qx_e254 _ (82, _, [.int (qz v388797)], qw σ388699 α388700 κ ρ, 0, 0)
                        refine qr_if_ne 103 85 rfl rfl rfl (qrg hv388797 (by decide) (by decide)) (fun h388798 => ?_) (fun h388798 => ?_)
                        · skip
                          refine qr_iconst 104 rfl rfl ?_
                          exact hJ388780 _ 0 σ388699 α388700 g388690 g388691 g388692 g388693 g388694 g388696 g388697 (by decide) hI388701 hF388702 ((hk388703).trans rfl) ((hk388704).trans rfl) hk388705 hk388706
                        · skip
                          refine qr_aload_n 86 rfl g388690 rfl ?_
                          refine qr_iload 88 rfl g388696 rfl ?_
                          refine qr_iload 90 rfl g388697 rfl ?_
                          refine qr_iload_n 91 rfl g388692 rfl ?_
                          refine qr_callN 94 rfl rfl rfl (sf_195_86 (d := d + 0) hI388701 (by omega) hf388708 r2) ?_
                          rintro _ _ ⟨σ388800, α388801, rfl, hI388802, hG388803, v388799, rfl, hv388799⟩
                          have hF388804 : qFr [(86, 11), (86, 15), (86, 23)] [94, 95, 96, 119] σ α σ388800 α388801 := qFr_t hF388702 hG388803 (by decide) (by decide)
                          show qr_W (qe L xs vb) (d + 5) qx_e254 _ (94, _, [.int (qz v388799)], qw σ388800 α388801 κ ρ, 0, 0)
                          refine qr_bipush 96 rfl (by decide) rfl ?_
                          refine qr_icmp_eq 103 99 rfl rfl rfl hv388799 (by decide) (fun h388805 => ?_) (fun h388805 => ?_)
                          · skip
                            refine qr_iconst 104 rfl rfl ?_
                            exact hJ388780 _ 0 σ388800 α388801 g388690 g388691 g388692 g388693 g388694 g388696 g388697 (by decide) hI388802 hF388804 ((hG388803.1 86 6 (by decide)).trans ((hk388703).trans rfl)) ((hG388803.1 86 11 (by decide)).trans ((hk388704).trans rfl)) ((hG388803.2 94 (by decide)).trans hk388705) ((hG388803.2 95 (by decide)).trans hk388706)
                          · skip
                            refine qr_iconst 100 rfl rfl ?_
                            refine qr_goto 104 rfl rfl ?_
                            exact hJ388780 _ 1 σ388800 α388801 g388690 g388691 g388692 g388693 g388694 g388696 g388697 (by decide) hI388802 hF388804 ((hG388803.1 86 6 (by decide)).trans ((hk388703).trans rfl)) ((hG388803.1 86 11 (by decide)).trans ((hk388704).trans rfl)) ((hG388803.2 94 (by decide)).trans hk388705) ((hG388803.2 95 (by decide)).trans hk388706)
                exact hL388709 ((31 - 0 + 1 : Int)).toNat _ u353394 0 σ353397 α353398 (by omega) (qm_gk g353389 (by decide) (Or.inl (by decide))) (qm_gk g353390 (by decide) (Or.inl (by decide))) (qm_gk g353391 (by decide) (Or.inl (by decide))) (qm_gk g353392 (by decide) (Or.inl (by decide))) (qm_gk g353393 (by decide) (Or.inl (by decide))) (qm_gk g353395 (by decide) (Or.inr rfl)) (qm_ge _ _ _) hf353405 (by decide) hI353399 hF353400 ((hk353401).trans rfl) ((hk353402).trans rfl) hk353403 hk353404
          exact hL353407 ((32 - 0 + 1 : Int)).toNat _ 0 0 σ α (by omega) rfl rfl rfl rfl rfl rfl (by decide) (by decide) hI hF0 (rfl) (rfl) rfl rfl
        · skip
          refine qr_iconst 41 rfl rfl ?_
          refine qr_retI rfl rfl (by decide) (by decide) ?_
          exact ⟨_, _, rfl, hI, hF0, (by have hw : σ 86 11 = (σ 86 11) := rfl; omega), (-1), rfl, (by decide), (fun j hj => ⟨rfl, rfl⟩)⟩
theorem qR2_0 {s g : Nat → Nat → Int} (hok : qo_ok s g) : qR2 (qJ_s s) (qJ_r g) := by
  refine ⟨rfl, fun j hj => absurd (show (j : Int) < 0 from hj) (by omega), fun x y hx hy => ?_⟩
  have e : qTb (qJ_r g 24) x y = g 24 (x * 32 + y).toNat := rfl
  have h := hok.2.2.1 24 (Or.inl rfl) (x * 32 + y : Int).toNat (by omega)
  rw [e, h]
  by_cases c : x = y
  · rw [if_pos (by omega)]
    exact ⟨by decide, fun _ => c, fun n _ => by omega⟩
  · rw [if_neg (by omega)]
    refine ⟨by decide, fun hl => absurd hl (by decide), fun n hw => absurd (qWk_iso (fun q ha => ?_) hw) c⟩
    obtain ⟨k, h1, h2⟩ := ha
    exact absurd (show (k : Int) < 0 from h1) (by omega)
end
section
/-! bits of longs; sums, rows of bits -/
theorem qlu_or (a b : Int) : qlu (ql_or a b) = qlu a ||| qlu b := by
  unfold qlu ql_or
  rw [← ql_of, Int64.toBitVec_or, BitVec.toNat_or]
theorem qlu_xor (a b : Int) : qlu (ql_xor a b) = qlu a ^^^ qlu b := by
  unfold qlu ql_xor
  rw [← ql_of, Int64.toBitVec_xor, BitVec.toNat_xor]
theorem qlu_m1 : qlu (-1) = 2 ^ 64 - 1 := by decide +kernel
theorem qlu_1s : ∀ p : Fin 64, qlu (ql_shl 1 ((p : Nat) : Int)) = 2 ^ (p : Nat) := by decide +kernel
theorem qbit_r (t i : Int) : 0 ≤ qbit t i ∧ qbit t i ≤ 1 := by
  unfold qbit
  omega
theorem qbit_if (t i : Int) : qbit t i = if (qlu t).testBit i.toNat = true then 1 else 0 := by
  unfold qbit
  rw [Nat.testBit_eq_decide_div_mod_eq]
  by_cases e : qlu t / 2 ^ i.toNat % 2 = 1
  · simp [e]
  · have h : qlu t / 2 ^ i.toNat % 2 = 0 := by omega
    simp [h]
theorem qbit_and (a b i : Int) : qbit (ql_and a b) i = if qbit a i = 1 ∧ qbit b i = 1 then 1 else 0 := by
  have h : qlu (ql_and a b) = qlu a &&& qlu b := qlu_and rfl
  rw [qbit_if (ql_and a b), qbit_if a, qbit_if b, h, Nat.testBit_and]
  cases (qlu a).testBit i.toNat <;> cases (qlu b).testBit i.toNat <;> simp
theorem qbit_or (a b i : Int) : qbit (ql_or a b) i = if qbit a i = 1 ∨ qbit b i = 1 then 1 else 0 := by
  rw [qbit_if (ql_or a b), qbit_if a, qbit_if b, qlu_or, Nat.testBit_or]
  cases (qlu a).testBit i.toNat <;> cases (qlu b).testBit i.toNat <;> simp
theorem qbit_not (a : Int) {i : Int} (h : 0 ≤ i ∧ i < 64) : qbit (ql_xor a (-1)) i = 1 - qbit a i := by
  rw [qbit_if (ql_xor a (-1)), qbit_if a, qlu_xor, qlu_m1, Nat.testBit_xor, Nat.testBit_two_pow_sub_one]
  have e : decide (i.toNat < 64) = true := by rw [decide_eq_true_eq]; omega
  rw [e]
  cases (qlu a).testBit i.toNat <;> simp
theorem qbit_shl {p i : Int} (hp : 0 ≤ p ∧ p < 64) (hi : 0 ≤ i) : qbit (ql_shl 1 p) i = if i = p then 1 else 0 := by
  obtain ⟨k, rfl⟩ : ∃ k : Nat, p = k := ⟨p.toNat, by omega⟩
  have h : qlu (ql_shl 1 (k : Int)) = 2 ^ k := qlu_1s ⟨k, by omega⟩
  rw [qbit_if, h, Nat.testBit_two_pow]
  by_cases e : i = k
  · rw [if_pos e, if_pos (by rw [decide_eq_true_eq]; omega)]
  · rw [if_neg e, if_neg (by rw [decide_eq_true_eq]; omega)]
theorem qbit_0 (i : Int) : qbit 0 i = 0 := by
  rw [qbit_if, show qlu 0 = 0 from by decide +kernel, Nat.zero_testBit]
  rfl
theorem qlu_hi (a : Int) {i : Nat} (h : 64 ≤ i) : (qlu a).testBit i = false := Nat.testBit_lt_two_pow (Nat.lt_of_lt_of_le (show qlu a < 2 ^ 64 from qlu_lt a) (Nat.pow_le_pow_right (by decide) h))
theorem qbit_ext {a b : Int} (ha : -9223372036854775808 ≤ a ∧ a ≤ 9223372036854775807) (hb : -9223372036854775808 ≤ b ∧ b ≤ 9223372036854775807) (h : ∀ i : Int, 0 ≤ i → i < 64 → qbit a i = qbit b i) : a = b := by
  have e : qlu a = qlu b := by
    refine Nat.eq_of_testBit_eq (fun i => ?_)
    by_cases hi : i < 64
    · have h1 := h (i : Int) (by omega) (by omega)
      rw [qbit_if, qbit_if b, Int.toNat_natCast] at h1
      revert h1
      cases (qlu a).testBit i <;> cases (qlu b).testBit i <;> simp
    · rw [qlu_hi a (by omega), qlu_hi b (by omega)]
  have h1 : ql a = ql b := Int64.toBitVec_inj.1 (BitVec.eq_of_toNat_eq e)
  have h2 := congrArg Int64.toInt h1
  rwa [ql_ti ha, ql_ti hb] at h2
theorem ql_or_r (a b : Int) : -9223372036854775808 ≤ ql_or a b ∧ ql_or a b ≤ 9223372036854775807 := ql_rng _
theorem ql_and_r (a b : Int) : -9223372036854775808 ≤ ql_and a b ∧ ql_and a b ≤ 9223372036854775807 := ql_rng _
theorem ql_xor_r (a b : Int) : -9223372036854775808 ≤ ql_xor a b ∧ ql_xor a b ≤ 9223372036854775807 := ql_rng _
theorem ql_shl_r (a b : Int) : -9223372036854775808 ≤ ql_shl a b ∧ ql_shl a b ≤ 9223372036854775807 := ql_rng _
/-- a long that a walk holds by its value is that value -/
theorem ql_val {v y : Int} (h : ql v = ql y) (hv : -9223372036854775808 ≤ v ∧ v ≤ 9223372036854775807) (hy : -9223372036854775808 ≤ y ∧ y ≤ 9223372036854775807) : v = y := (ql_eq hv hy).1 h
theorem qz_val {v y : Int} (h : qz v = qz y) (hv : -2147483648 ≤ v ∧ v ≤ 2147483647) (hy : -2147483648 ≤ y ∧ y ≤ 2147483647) : v = y := (qz_eq hv hy).1 h
/-- sums -/
def qsm (f : Nat → Int) : Nat → Int
  | 0 => 0
  | n + 1 => qsm f n + f n
theorem qsm_s (f : Nat → Int) {i : Int} (h : 0 ≤ i) : qsm f (i + 1).toNat = qsm f i.toNat + f i.toNat := by
  rw [show (i + 1).toNat = i.toNat + 1 by omega]
  rfl
theorem qsm_eq {f g : Nat → Int} : ∀ n : Nat, (∀ k, k < n → f k = g k) → qsm f n = qsm g n
  | 0, _ => rfl
  | n + 1, h => by
    show qsm f n + f n = qsm g n + g n
    rw [qsm_eq n (fun k hk => h k (by omega)), h n (by omega)]
theorem qsm_01 {f : Nat → Int} (h : ∀ k, 0 ≤ f k ∧ f k ≤ 1) : ∀ n : Nat, 0 ≤ qsm f n ∧ qsm f n ≤ n
  | 0 => by show (0 : Int) ≤ 0 ∧ (0 : Int) ≤ 0; omega
  | n + 1 => by
    have h1 := qsm_01 h n
    have h2 := h n
    show 0 ≤ qsm f n + f n ∧ qsm f n + f n ≤ ((n + 1 : Nat) : Int)
    omega
theorem qcn_sm (t : Int) : ∀ n : Nat, qcn t (n : Int) = qsm (fun k => qbit t (k : Int)) n
  | 0 => qcn_0 t
  | n + 1 => by
    have h1 := (qcn_s t (i := (n : Int)) (by omega)).1
    rw [show ((n + 1 : Nat) : Int) = (n : Int) + 1 by omega, h1, qcn_sm t n]
    rfl
/-- rows of bits -/
def qbs (f : Nat → Int) : Nat → Int
  | 0 => 0
  | n + 1 => if f n = 1 then ql_or (qbs f n) (ql_shl 1 (n : Int)) else qbs f n
theorem qbs_s (f : Nat → Int) {i : Int} (h : 0 ≤ i) : (f i.toNat = 1 ∧ qbs f (i + 1).toNat = ql_or (qbs f i.toNat) (ql_shl 1 i)) ∨ (¬ f i.toNat = 1 ∧ qbs f (i + 1).toNat = qbs f i.toNat) := by
  obtain ⟨n, rfl⟩ : ∃ n : Nat, i = n := ⟨i.toNat, by omega⟩
  rw [show ((n : Int) + 1).toNat = n + 1 by omega, Int.toNat_natCast]
  by_cases e : f n = 1
  · exact Or.inl ⟨e, if_pos e⟩
  · exact Or.inr ⟨e, if_neg e⟩
theorem qbs_r (f : Nat → Int) : ∀ n : Nat, -9223372036854775808 ≤ qbs f n ∧ qbs f n ≤ 9223372036854775807
  | 0 => by show (-9223372036854775808 : Int) ≤ 0 ∧ (0 : Int) ≤ 9223372036854775807; omega
  | n + 1 => by
    show -9223372036854775808 ≤ (if f n = 1 then ql_or (qbs f n) (ql_shl 1 (n : Int)) else qbs f n) ∧ (if f n = 1 then ql_or (qbs f n) (ql_shl 1 (n : Int)) else qbs f n) ≤ 9223372036854775807
    split
    · exact ql_or_r _ _
    · exact qbs_r f n
theorem qbs_bit (f : Nat → Int) {i : Int} (hi : 0 ≤ i) : ∀ n : Nat, n ≤ 64 → qbit (qbs f n) i = if i < (n : Int) ∧ f i.toNat = 1 then 1 else 0
  | 0, _ => by
    rw [if_neg (by omega)]
    exact qbit_0 i
  | n + 1, hn => by
    have ih := qbs_bit f hi n (by omega)
    show qbit (if f n = 1 then ql_or (qbs f n) (ql_shl 1 (n : Int)) else qbs f n) i = _
    by_cases e : f n = 1
    · rw [if_pos e, qbit_or, qbit_shl (by omega) hi, ih]
      by_cases e2 : i = (n : Int)
      · have e3 : i.toNat = n := by omega
        rw [if_pos (Or.inr (if_pos e2)), e3, if_pos ⟨by omega, e⟩]
      · by_cases e3 : i < (n : Int) ∧ f i.toNat = 1
        · rw [if_pos (Or.inl (if_pos e3)), if_pos ⟨by omega, e3.2⟩]
        · rw [if_neg (by rw [if_neg e3, if_neg e2]; omega), if_neg (fun h => e3 ⟨by omega, h.2⟩)]
    · rw [if_neg e, ih]
      by_cases e3 : i < (n : Int) ∧ f i.toNat = 1
      · rw [if_pos e3, if_pos ⟨by omega, e3.2⟩]
      · by_cases e2 : i = (n : Int)
        · have e4 : i.toNat = n := by omega
          rw [if_neg e3, if_neg (fun h => e (by rw [← e4]; exact h.2))]
        · rw [if_neg e3, if_neg (fun h => e3 ⟨by omega, h.2⟩)]
theorem qbs_eq {f g : Nat → Int} : ∀ n : Nat, (∀ k, k < n → f k = g k) → qbs f n = qbs g n
  | 0, _ => rfl
  | n + 1, h => by
    show (if f n = 1 then ql_or (qbs f n) (ql_shl 1 (n : Int)) else qbs f n) = (if g n = 1 then ql_or (qbs g n) (ql_shl 1 (n : Int)) else qbs g n)
    rw [qbs_eq n (fun k hk => h k (by omega)), h n (by omega)]
/-- a row of bits of numbers that are 0 or 1 holds as many as their sum -/
theorem qbs_cn {f : Nat → Int} (h : ∀ k, 0 ≤ f k ∧ f k ≤ 1) {n : Nat} (hn : n ≤ 64) : qcn (qbs f n) 64 = qsm f n := by
  have e := qcn_sm (qbs f n) 64
  rw [show ((64 : Nat) : Int) = 64 from rfl] at e
  rw [e]
  have g : ∀ m : Nat, m ≤ n → qsm (fun k => qbit (qbs f n) (k : Int)) m = qsm f m := fun m hm => qsm_eq m (fun k hk => by
    show qbit (qbs f n) (k : Int) = f k
    have hk2 := h k
    rw [qbs_bit f (by omega) n hn, Int.toNat_natCast]
    by_cases e1 : f k = 1
    · rw [if_pos ⟨by omega, e1⟩, e1]
    · rw [if_neg (fun z => e1 z.2)]
      omega)
  have g2 : ∀ m : Nat, qsm (fun k => qbit (qbs f n) (k : Int)) (n + m) = qsm f n := by
    intro m
    induction m with
    | zero => exact g n (Nat.le_refl n)
    | succ m ih =>
      show qsm (fun k => qbit (qbs f n) (k : Int)) (n + m) + qbit (qbs f n) ((n + m : Nat) : Int) = _
      rw [ih, qbs_bit f (by omega) n hn, if_neg (by omega)]
      omega
  have g3 := g2 (64 - n)
  rwa [show n + (64 - n) = 64 by omega] at g3
/-- two steps, how near by a feud: a, b one way about, c, d the other one -/
def qcl (a b c d t : Int) : Int := if c ≤ t ∧ d ≤ t ∧ c + d < (if a ≤ t ∧ b ≤ t then a + b else 9) then c + d else if a ≤ t ∧ b ≤ t then a + b else 9
theorem qcl_c (a b c d t : Int) : ((a ≤ t ∧ b ≤ t) ∧ ((c ≤ t ∧ d ≤ t ∧ c + d < a + b ∧ qcl a b c d t = c + d) ∨ (¬ (c ≤ t ∧ d ≤ t ∧ c + d < a + b) ∧ qcl a b c d t = a + b))) ∨ (¬ (a ≤ t ∧ b ≤ t) ∧ ((c ≤ t ∧ d ≤ t ∧ c + d < 9 ∧ qcl a b c d t = c + d) ∨ (¬ (c ≤ t ∧ d ≤ t ∧ c + d < 9) ∧ qcl a b c d t = 9))) := by
  unfold qcl
  by_cases e : a ≤ t ∧ b ≤ t
  · rw [if_pos e]
    by_cases e2 : c ≤ t ∧ d ≤ t ∧ c + d < a + b
    · rw [if_pos e2]
      exact Or.inl ⟨e, Or.inl ⟨e2.1, e2.2.1, e2.2.2, rfl⟩⟩
    · rw [if_neg e2]
      exact Or.inl ⟨e, Or.inr ⟨e2, rfl⟩⟩
  · rw [if_neg e]
    by_cases e2 : c ≤ t ∧ d ≤ t ∧ c + d < 9
    · rw [if_pos e2]
      exact Or.inr ⟨e, Or.inl ⟨e2.1, e2.2.1, e2.2.2, rfl⟩⟩
    · rw [if_neg e2]
      exact Or.inr ⟨e, Or.inr ⟨e2, rfl⟩⟩
/-- whether a feud is open at an hour: since, paid, whether it is paid in thought -/
def qop (sn pd st h : Int) : Int := if sn ≤ h ∧ (pd = 2400 ∨ h < pd) ∧ st = 0 then 1 else 0
theorem qop_c (sn pd st h : Int) : (qop sn pd st h = 1 ∧ sn ≤ h ∧ (pd = 2400 ∨ h < pd) ∧ st = 0) ∨ (qop sn pd st h = 0 ∧ ¬ (sn ≤ h ∧ (pd = 2400 ∨ h < pd) ∧ st = 0)) := by
  unfold qop
  split
  · next e => exact Or.inl ⟨rfl, e⟩
  · next e => exact Or.inr ⟨rfl, e⟩
/-- the nearest of the first feuds: 64 times how near, and its number; 576: none -/
def qnk (o c : Nat → Int) : Nat → Int
  | 0 => 576
  | n + 1 => if o n = 1 ∧ c n * 64 + (n : Int) < qnk o c n then c n * 64 + (n : Int) else qnk o c n
theorem qnk_s (o c : Nat → Int) {i : Int} (h : 0 ≤ i) : (o i.toNat = 1 ∧ c i.toNat * 64 + i < qnk o c i.toNat ∧ qnk o c (i + 1).toNat = c i.toNat * 64 + i) ∨ (¬ (o i.toNat = 1 ∧ c i.toNat * 64 + i < qnk o c i.toNat) ∧ qnk o c (i + 1).toNat = qnk o c i.toNat) := by
  obtain ⟨n, rfl⟩ : ∃ n : Nat, i = n := ⟨i.toNat, by omega⟩
  rw [show ((n : Int) + 1).toNat = n + 1 by omega, Int.toNat_natCast]
  by_cases e : o n = 1 ∧ c n * 64 + (n : Int) < qnk o c n
  · exact Or.inl ⟨e.1, e.2, if_pos e⟩
  · exact Or.inr ⟨e, if_neg e⟩
theorem qnk_eq {o c o' c' : Nat → Int} : ∀ n : Nat, (∀ k, k < n → o k = o' k ∧ c k = c' k) → qnk o c n = qnk o' c' n
  | 0, _ => rfl
  | n + 1, h => by
    show (if o n = 1 ∧ c n * 64 + (n : Int) < qnk o c n then c n * 64 + (n : Int) else qnk o c n) = (if o' n = 1 ∧ c' n * 64 + (n : Int) < qnk o' c' n then c' n * 64 + (n : Int) else qnk o' c' n)
    rw [qnk_eq n (fun k hk => h k (by omega)), (h n (by omega)).1, (h n (by omega)).2]
theorem qb63s : ∀ k : Fin 64, ((qz ((k : Nat) : Int)).toInt64 &&& 63).toBitVec.smod 64 = BitVec.ofNat 64 (k : Nat) := by decide +kernel
/-- whether a place of a long is set, by a shift that keeps the sign -/
theorem qbit_inS {t i v1 v2 : Int} (hi : 0 ≤ i ∧ i ≤ 63) (hr : -9223372036854775808 ≤ v2 ∧ v2 ≤ 9223372036854775807) (h1 : ql v1 = ql (ql_shr t i)) (h2 : ql v2 = ql (ql_and v1 1)) : v2 = qbit t i ∧ 0 ≤ v2 ∧ v2 ≤ 1 := by
  obtain ⟨m, rfl⟩ : ∃ m : Nat, i = m := ⟨i.toNat, by omega⟩
  have hm : m < 64 := by omega
  have g0 : (ql v1).toBitVec = (ql t).toBitVec.sshiftRight m := by
    rw [h1]
    unfold ql_shr
    rw [← ql_of, Int64.toBitVec_shiftRight, qb63s ⟨m, hm⟩]
    show (ql t).toBitVec.sshiftRight (BitVec.ofNat 64 m).toNat = _
    rw [BitVec.toNat_ofNat, Nat.mod_eq_of_lt (by omega)]
  have g3 : (qlu v1).testBit 0 = (qlu t).testBit m := by
    unfold qlu
    rw [BitVec.testBit_toNat, BitVec.testBit_toNat, g0, BitVec.getLsbD_sshiftRight]
    simp [hm]
  have g2 := qlu_and h2
  rw [show qlu 1 = 2 ^ 1 - 1 from by decide +kernel, Nat.and_two_pow_sub_one_eq_mod] at g2
  rw [Nat.testBit_eq_decide_div_mod_eq, Nat.testBit_eq_decide_div_mod_eq, decide_eq_decide] at g3
  have g4 := qlu_sm hr (by omega)
  have g5 : qlu v1 / 2 ^ 0 = qlu v1 := by rw [Nat.pow_zero, Nat.div_one]
  rw [g5] at g3
  unfold qbit
  rw [Int.toNat_natCast]
  omega
def qsh (f : Nat → Int) (k : Nat) : Nat → Int := fun j => f (k + j)
def qoF (sn pd : Nat → Int) (st h : Int) (f : Nat) : Int := qop (sn f) (pd f) (qbit st (f : Int)) h
def qcF (D : Int → Int → Int) (kd kr bd : Nat → Int) (p q : Int) (f : Nat) : Int := qcl (D p (kd f)) (D q (kr f)) (D q (kd f)) (D p (kr f)) (bd f)
/-- the nearest of all feuds -/
def qnF (D : Int → Int → Int) (kd kr bd sn pd : Nat → Int) (st n p q h : Int) : Int := qnk (qoF sn pd st h) (qcF D kd kr bd p q) n.toNat
theorem qoF_a (sn pd : Nat → Int) (st h : Int) {i : Int} (hi : 0 ≤ i) : qoF sn pd st h i.toNat = qop (sn i.toNat) (pd i.toNat) (qbit st i) h := by
  unfold qoF
  rw [Int.toNat_of_nonneg hi]
/-! bits of ints -/
def qlz (a : Int) : Nat := (qz a).toBitVec.toNat
theorem qlz_lt (a : Int) : qlz a < 4294967296 := (qz a).toBitVec.isLt
def qbi (t i : Int) : Int := ((qlz t / 2 ^ i.toNat % 2 : Nat) : Int)
theorem qlz_and {v a b : Int} (h : qz v = qz (qz_and a b)) : qlz v = qlz a &&& qlz b := by
  unfold qlz
  rw [h]
  unfold qz_and
  rw [← qz_of, Int32.toBitVec_and, BitVec.toNat_and]
theorem qlz_or (a b : Int) : qlz (qz_or a b) = qlz a ||| qlz b := by
  unfold qlz qz_or
  rw [← qz_of, Int32.toBitVec_or, BitVec.toNat_or]
theorem qlz_xor (a b : Int) : qlz (qz_xor a b) = qlz a ^^^ qlz b := by
  unfold qlz qz_xor
  rw [← qz_of, Int32.toBitVec_xor, BitVec.toNat_xor]
theorem qlz_m1 : qlz (-1) = 2 ^ 32 - 1 := by decide +kernel
theorem qlz_1s : ∀ p : Fin 32, qlz (qz_shl 1 ((p : Nat) : Int)) = 2 ^ (p : Nat) := by decide +kernel
theorem qbi_r (t i : Int) : 0 ≤ qbi t i ∧ qbi t i ≤ 1 := by
  unfold qbi
  omega
theorem qbi_if (t i : Int) : qbi t i = if (qlz t).testBit i.toNat = true then 1 else 0 := by
  unfold qbi
  rw [Nat.testBit_eq_decide_div_mod_eq]
  by_cases e : qlz t / 2 ^ i.toNat % 2 = 1
  · simp [e]
  · have h : qlz t / 2 ^ i.toNat % 2 = 0 := by omega
    simp [h]
theorem qbi_and (a b i : Int) : qbi (qz_and a b) i = if qbi a i = 1 ∧ qbi b i = 1 then 1 else 0 := by
  have h : qlz (qz_and a b) = qlz a &&& qlz b := qlz_and rfl
  rw [qbi_if (qz_and a b), qbi_if a, qbi_if b, h, Nat.testBit_and]
  cases (qlz a).testBit i.toNat <;> cases (qlz b).testBit i.toNat <;> simp
theorem qbi_or (a b i : Int) : qbi (qz_or a b) i = if qbi a i = 1 ∨ qbi b i = 1 then 1 else 0 := by
  rw [qbi_if (qz_or a b), qbi_if a, qbi_if b, qlz_or, Nat.testBit_or]
  cases (qlz a).testBit i.toNat <;> cases (qlz b).testBit i.toNat <;> simp
theorem qbi_not (a : Int) {i : Int} (h : 0 ≤ i ∧ i < 32) : qbi (qz_xor a (-1)) i = 1 - qbi a i := by
  rw [qbi_if (qz_xor a (-1)), qbi_if a, qlz_xor, qlz_m1, Nat.testBit_xor, Nat.testBit_two_pow_sub_one]
  have e : decide (i.toNat < 32) = true := by rw [decide_eq_true_eq]; omega
  rw [e]
  cases (qlz a).testBit i.toNat <;> simp
theorem qbi_shl {p i : Int} (hp : 0 ≤ p ∧ p < 32) (hi : 0 ≤ i) : qbi (qz_shl 1 p) i = if i = p then 1 else 0 := by
  obtain ⟨k, rfl⟩ : ∃ k : Nat, p = k := ⟨p.toNat, by omega⟩
  have h : qlz (qz_shl 1 (k : Int)) = 2 ^ k := qlz_1s ⟨k, by omega⟩
  rw [qbi_if, h, Nat.testBit_two_pow]
  by_cases e : i = k
  · rw [if_pos e, if_pos (by rw [decide_eq_true_eq]; omega)]
  · rw [if_neg e, if_neg (by rw [decide_eq_true_eq]; omega)]
theorem qbi_0 (i : Int) : qbi 0 i = 0 := by
  rw [qbi_if, show qlz 0 = 0 from by decide +kernel, Nat.zero_testBit]
  rfl
theorem qlz_hi (a : Int) {i : Nat} (h : 32 ≤ i) : (qlz a).testBit i = false := Nat.testBit_lt_two_pow (Nat.lt_of_lt_of_le (show qlz a < 2 ^ 32 from qlz_lt a) (Nat.pow_le_pow_right (by decide) h))
theorem qbi_ext {a b : Int} (ha : -2147483648 ≤ a ∧ a ≤ 2147483647) (hb : -2147483648 ≤ b ∧ b ≤ 2147483647) (h : ∀ i : Int, 0 ≤ i → i < 32 → qbi a i = qbi b i) : a = b := by
  have e : qlz a = qlz b := by
    refine Nat.eq_of_testBit_eq (fun i => ?_)
    by_cases hi : i < 32
    · have h1 := h (i : Int) (by omega) (by omega)
      rw [qbi_if, qbi_if b, Int.toNat_natCast] at h1
      revert h1
      cases (qlz a).testBit i <;> cases (qlz b).testBit i <;> simp
    · rw [qlz_hi a (by omega), qlz_hi b (by omega)]
  have h1 : qz a = qz b := Int32.toBitVec_inj.1 (BitVec.eq_of_toNat_eq e)
  have h2 := congrArg Int32.toInt h1
  rwa [qz_ti ha, qz_ti hb] at h2
theorem qz_xor_r (a b : Int) : -2147483648 ≤ qz_xor a b ∧ qz_xor a b ≤ 2147483647 := qz_rng _
theorem qlz_nn {a : Int} (h : 0 ≤ a ∧ a ≤ 2147483647) : (qlz a : Int) = a := by
  have h1 : (qz a).toInt = a := qz_ti (by omega)
  have hm := qz_msb (x := qz a) (by rw [h1]; exact h.1)
  have h2 : (qz a).toInt = ((qz a).toBitVec.toNat : Int) := BitVec.toInt_eq_toNat_of_msb hm
  unfold qlz
  omega
theorem qb31s : ∀ k : Fin 32, (qz ((k : Nat) : Int) &&& 31).toBitVec.smod 32 = BitVec.ofNat 32 (k : Nat) := by decide +kernel
theorem qbi_inS {t i v1 v2 : Int} (hi : 0 ≤ i ∧ i ≤ 31) (h1 : qz v1 = qz (qz_shr t i)) (h2 : v2 = qz_and v1 1) (hr : 0 ≤ v2 ∧ v2 ≤ 1) : v2 = qbi t i := by
  obtain ⟨m, rfl⟩ : ∃ m : Nat, i = m := ⟨i.toNat, by omega⟩
  have hm : m < 32 := by omega
  have g0 : (qz v1).toBitVec = (qz t).toBitVec.sshiftRight m := by
    rw [h1]
    unfold qz_shr
    rw [← qz_of, Int32.toBitVec_shiftRight, qb31s ⟨m, hm⟩]
    show (qz t).toBitVec.sshiftRight (BitVec.ofNat 32 m).toNat = _
    rw [BitVec.toNat_ofNat, Nat.mod_eq_of_lt (by omega)]
  have g3 : (qlz v1).testBit 0 = (qlz t).testBit m := by
    unfold qlz
    rw [BitVec.testBit_toNat, BitVec.testBit_toNat, g0, BitVec.getLsbD_sshiftRight]
    simp [hm]
  have g2 : qlz v2 = qlz v1 &&& qlz 1 := qlz_and (by rw [h2])
  rw [show qlz 1 = 2 ^ 1 - 1 from by decide +kernel, Nat.and_two_pow_sub_one_eq_mod] at g2
  rw [Nat.testBit_eq_decide_div_mod_eq, Nat.testBit_eq_decide_div_mod_eq, decide_eq_decide] at g3
  have g4 := qlz_nn (a := v2) (by omega)
  have g5 : qlz v1 / 2 ^ 0 = qlz v1 := by rw [Nat.pow_zero, Nat.div_one]
  rw [g5] at g3
  unfold qbi
  rw [Int.toNat_natCast]
  omega
end
