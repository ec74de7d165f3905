/-! bits of longs, counted -/
def qlu (a : Int) : Nat := (ql a).toBitVec.toNat
theorem qlu_lt (a : Int) : qlu a < 18446744073709551616 := (ql a).toBitVec.isLt
theorem qlu_nn {a : Int} (h : 0 ≤ a ∧ a ≤ 9223372036854775807) : (qlu a : Int) = a := by
  have h1 : (ql a).toInt = a := ql_ti (by omega)
  have hm : (ql a).toBitVec.msb = false := by
    rw [BitVec.msb_eq_toInt, decide_eq_false_iff_not]
    show ¬ (ql a).toInt < 0
    omega
  have h2 : (ql a).toInt = ((ql a).toBitVec.toNat : Int) := BitVec.toInt_eq_toNat_of_msb hm
  unfold qlu
  omega
theorem qlu_add {v a b : Int} (h : ql v = ql (a + b)) : qlu v = (qlu a + qlu b) % 18446744073709551616 := by
  unfold qlu
  rw [h, ← ql_add, Int64.toBitVec_add, BitVec.toNat_add]
theorem qlu_sub {v a b : Int} (h : ql v = ql (a - b)) : qlu v = (18446744073709551616 - qlu b + qlu a) % 18446744073709551616 := by
  unfold qlu
  rw [h, ← ql_sub, Int64.toBitVec_sub, BitVec.toNat_sub]
theorem qlu_and {v a b : Int} (h : ql v = ql (ql_and a b)) : qlu v = qlu a &&& qlu b := by
  unfold qlu
  rw [h]
  unfold ql_and
  rw [← ql_of, Int64.toBitVec_and, BitVec.toNat_and]
theorem qlu_ushrN {v a b : Int} (k : Nat) (hb : ((qz b).toInt64.toUInt64 &&& Int64.toUInt64 63) = UInt64.ofNat k) (hk : k < 64) (h : ql v = ql (ql_ushr a b)) : qlu v = qlu a / 2 ^ k := by
  unfold qlu
  rw [h]
  unfold ql_ushr
  rw [← ql_of, hb]
  have e4 : (ql a).toUInt64.toNat = (ql a).toBitVec.toNat := rfl
  have e5 : ((ql a).toUInt64 >>> UInt64.ofNat k).toNat = (ql a).toBitVec.toNat / 2 ^ k := by
    rw [UInt64.toNat_shiftRight, e4, UInt64.toNat_ofNat_of_lt' (Nat.lt_trans hk (by decide)), Nat.mod_eq_of_lt hk, Nat.shiftRight_eq_div_pow]
  exact e5
theorem qz_lo (v : Int) : (qz v).toBitVec.toNat = qlu v % 4294967296 := by
  unfold qlu
  have h1 : (qz v).toBitVec = BitVec.ofInt 32 v := rfl
  have h2 : (ql v).toBitVec = BitVec.ofInt 64 v := rfl
  rw [h1, h2, BitVec.toNat_ofInt, BitVec.toNat_ofInt]
  omega
/-- how many of the first places of a number are set -/
def qbN (n : Nat) : Nat → Nat
  | 0 => 0
  | k + 1 => qbN n k + n / 2 ^ k % 2
theorem qbN_hi {a : Nat} (ha : a < 256) (n : Nat) : ∀ k, qbN (a + 256 * n) (8 + k) = qbN (a + 256 * n) 8 + qbN n k
  | 0 => rfl
  | k + 1 => by
    show qbN (a + 256 * n) (8 + k) + (a + 256 * n) / 2 ^ (8 + k) % 2 = qbN (a + 256 * n) 8 + (qbN n k + n / 2 ^ k % 2)
    rw [qbN_hi ha n k]
    have e : (a + 256 * n) / 2 ^ (8 + k) = n / 2 ^ k := by
      rw [Nat.pow_add, ← Nat.div_div_eq_div_mul]
      congr 1
      omega
    rw [e]
    omega
theorem qbN_8 (a n : Nat) : qbN (a + 256 * n) 8 = qbN a 8 := by
  simp only [qbN]
  omega
theorem qbN_b {a : Nat} (ha : a < 256) (n k : Nat) : qbN (a + 256 * n) (8 + k) = qbN a 8 + qbN n k := by rw [qbN_hi ha, qbN_8]
theorem qbN_le (n : Nat) : ∀ k j, k ≤ j → qbN n k ≤ qbN n j
  | k, 0, h => by
    have : k = 0 := by omega
    subst this
    exact Nat.le_refl _
  | k, j + 1, h => by
    by_cases e : k = j + 1
    · subst e
      exact Nat.le_refl _
    · have := qbN_le n k j (by omega)
      show qbN n k ≤ qbN n j + n / 2 ^ j % 2
      omega
theorem qand8 {a m : Nat} (ha : a < 256) (hm : m < 256) (n M : Nat) : (a + 256 * n) &&& (m + 256 * M) = (a &&& m) + 256 * (n &&& M) := by
  have e1 : ((a + 256 * n) &&& (m + 256 * M)) % 2 ^ 8 = a &&& m := by
    rw [Nat.and_mod_two_pow]
    congr 1 <;> omega
  have e2 : ((a + 256 * n) &&& (m + 256 * M)) / 2 ^ 8 = n &&& M := by
    rw [Nat.and_div_two_pow]
    congr 1 <;> omega
  omega
/-- the three steps of a count by bytes, over k bytes -/
def qm5 : Nat → Nat | 0 => 0 | k + 1 => 85 + 256 * qm5 k
def qm3 : Nat → Nat | 0 => 0 | k + 1 => 51 + 256 * qm3 k
def qmf : Nat → Nat | 0 => 0 | k + 1 => 15 + 256 * qmf k
def qs1 (k n : Nat) : Nat := n - (n / 2 &&& qm5 k)
def qs2 (k n : Nat) : Nat := (n &&& qm3 k) + (n / 4 &&& qm3 k)
def qs3 (k n : Nat) : Nat := (n + n / 16) &&& qmf k
theorem qd1 : ∀ a : Fin 256, ∀ t : Fin 2, ((a : Nat) / 2 + 128 * (t : Nat) &&& 85) = ((a : Nat) / 2 &&& 85) := by decide +kernel
theorem qd2 : ∀ a : Fin 256, ∀ t : Fin 4, ((a : Nat) / 4 + 64 * (t : Nat) &&& 51) = ((a : Nat) / 4 &&& 51) := by decide +kernel
theorem qd3 : ∀ a : Fin 256, ((a : Nat) &&& 15) = (a : Nat) % 16 := by decide +kernel
theorem qd4 : ∀ a : Fin 256, qs1 1 (a : Nat) < 256 ∧ qs2 1 (qs1 1 (a : Nat)) < 256 ∧ qs2 1 (qs1 1 (a : Nat)) % 16 ≤ 4 ∧ qs2 1 (qs1 1 (a : Nat)) / 16 ≤ 4 ∧ (qs2 1 (qs1 1 (a : Nat)) + qs2 1 (qs1 1 (a : Nat)) / 16) % 16 = qbN (a : Nat) 8 ∧ ((a : Nat) / 2 &&& 85) ≤ (a : Nat) := by decide +kernel
theorem qs1_s {a : Nat} (ha : a < 256) (k n : Nat) : qs1 (k + 1) (a + 256 * n) = qs1 1 a + 256 * qs1 k n := by
  have e1 : (a + 256 * n) / 2 = (a / 2 + 128 * (n % 2)) + 256 * (n / 2) := by omega
  have e2 := qd1 ⟨a, ha⟩ ⟨n % 2, Nat.mod_lt _ (by decide)⟩
  have e3 := (qd4 ⟨a, ha⟩).2.2.2.2.2
  have e4 : (n / 2 &&& qm5 k) ≤ n / 2 := Nat.and_le_left
  have e5 : qs1 1 a = a - (a / 2 &&& 85) := rfl
  rw [e5]
  unfold qs1
  rw [e1]
  show a + 256 * n - ((a / 2 + 128 * (n % 2)) + 256 * (n / 2) &&& 85 + 256 * qm5 k) = _
  rw [qand8 (by omega) (by decide)]
  simp only at e2 e3
  rw [e2]
  omega
theorem qs2_s {a : Nat} (ha : a < 256) (k n : Nat) : qs2 (k + 1) (a + 256 * n) = qs2 1 a + 256 * qs2 k n := by
  have e1 : (a + 256 * n) / 4 = (a / 4 + 64 * (n % 4)) + 256 * (n / 4) := by omega
  have e2 := qd2 ⟨a, ha⟩ ⟨n % 4, Nat.mod_lt _ (by decide)⟩
  have e5 : qs2 1 a = (a &&& 51) + (a / 4 &&& 51) := rfl
  rw [e5]
  unfold qs2
  rw [e1]
  show (a + 256 * n &&& 51 + 256 * qm3 k) + ((a / 4 + 64 * (n % 4)) + 256 * (n / 4) &&& 51 + 256 * qm3 k) = _
  rw [qand8 (by omega) (by decide), qand8 (by omega) (by decide)]
  simp only at e2
  rw [e2]
  omega
theorem qs3_s {a : Nat} (ha : a % 16 ≤ 4 ∧ a / 16 ≤ 4) (k n : Nat) (hn : n % 16 ≤ 4) : qs3 (k + 1) (a + 256 * n) = (a + a / 16) % 16 + 256 * qs3 k n := by
  have e1 : (a + 256 * n) + (a + 256 * n) / 16 = (a + a / 16 + 16 * (n % 16)) + 256 * (n + n / 16) := by omega
  unfold qs3
  rw [e1]
  show (a + a / 16 + 16 * (n % 16)) + 256 * (n + n / 16) &&& 15 + 256 * qmf k = _
  rw [qand8 (by omega) (by decide)]
  have e2 := qd3 ⟨a + a / 16 + 16 * (n % 16), by omega⟩
  simp only at e2
  rw [e2]
  omega
theorem qs12_16 {a : Nat} (ha : a < 256) (k n : Nat) : qs2 (k + 1) (qs1 (k + 1) (a + 256 * n)) = qs2 1 (qs1 1 a) + 256 * qs2 k (qs1 k n) := by
  have h := qd4 ⟨a, ha⟩
  simp only at h
  rw [qs1_s ha, qs2_s h.1]
/-- what the three steps leave: in each byte how many places of it are set -/
def qfl : Nat → Nat → Nat
  | 0, _ => 0
  | k + 1, n => qbN (n % 256) 8 + 256 * qfl k (n / 256)
theorem qfl_ok : ∀ k n, n < 256 ^ k → qs3 k (qs2 k (qs1 k n)) = qfl k n ∧ qs2 k (qs1 k n) % 16 ≤ 4
  | 0, n, h => by
    have : n = 0 := by simpa using h
    subst this
    exact ⟨rfl, Nat.zero_le _⟩
  | k + 1, n, h => by
    have hn : n = n % 256 + 256 * (n / 256) := by omega
    have ha : n % 256 < 256 := by omega
    have hq := qd4 ⟨n % 256, ha⟩
    simp only at hq
    have hk : n / 256 < 256 ^ k := by
      rw [Nat.pow_succ] at h
      exact Nat.div_lt_of_lt_mul (by omega)
    have ih := qfl_ok k (n / 256) hk
    have e := qs12_16 ha k (n / 256)
    rw [← hn] at e
    rw [e]
    refine ⟨?_, ?_⟩
    case refine_2 =>
      have q : ∀ A B : Nat, (A + 256 * B) % 16 = A % 16 := fun A B => by omega
      rw [q]
      exact hq.2.2.1
    rw [qs3_s ⟨hq.2.2.1, hq.2.2.2.1⟩ k _ ih.2, ih.1, hq.2.2.2.2.1]
    rfl
theorem qbN_8le (n : Nat) : qbN n 8 ≤ 8 := by
  simp only [qbN]
  omega
theorem qfl_sum (n : Nat) (h : n < 18446744073709551616) : ∃ p0 p1 p2 p3 p4 p5 p6 p7 : Nat, (p0 ≤ 8 ∧ p1 ≤ 8 ∧ p2 ≤ 8 ∧ p3 ≤ 8 ∧ p4 ≤ 8 ∧ p5 ≤ 8 ∧ p6 ≤ 8 ∧ p7 ≤ 8) ∧ qfl 8 n = p0 + 256 * (p1 + 256 * (p2 + 256 * (p3 + 256 * (p4 + 256 * (p5 + 256 * (p6 + 256 * (p7))))))) ∧ qbN n 64 = p0 + p1 + p2 + p3 + p4 + p5 + p6 + p7 := by
  have s : ∀ m k, qbN m (8 + k) = qbN (m % 256) 8 + qbN (m / 256) k := fun m k => by
    have h1 := qbN_b (a := m % 256) (by omega) (m / 256) k
    rw [show m % 256 + 256 * (m / 256) = m by omega] at h1
    exact h1
  have e0 : qbN n 64 = qbN (n % 256) 8 + qbN (n / 256) 56 := s _ 56
  have e1 : qbN (n / 256) 56 = qbN (n / 256 % 256) 8 + qbN (n / 256 / 256) 48 := s _ 48
  have e2 : qbN (n / 256 / 256) 48 = qbN (n / 256 / 256 % 256) 8 + qbN (n / 256 / 256 / 256) 40 := s _ 40
  have e3 : qbN (n / 256 / 256 / 256) 40 = qbN (n / 256 / 256 / 256 % 256) 8 + qbN (n / 256 / 256 / 256 / 256) 32 := s _ 32
  have e4 : qbN (n / 256 / 256 / 256 / 256) 32 = qbN (n / 256 / 256 / 256 / 256 % 256) 8 + qbN (n / 256 / 256 / 256 / 256 / 256) 24 := s _ 24
  have e5 : qbN (n / 256 / 256 / 256 / 256 / 256) 24 = qbN (n / 256 / 256 / 256 / 256 / 256 % 256) 8 + qbN (n / 256 / 256 / 256 / 256 / 256 / 256) 16 := s _ 16
  have e6 : qbN (n / 256 / 256 / 256 / 256 / 256 / 256) 16 = qbN (n / 256 / 256 / 256 / 256 / 256 / 256 % 256) 8 + qbN (n / 256 / 256 / 256 / 256 / 256 / 256 / 256) 8 := s _ 8
  have e7 : qbN (n / 256 / 256 / 256 / 256 / 256 / 256 / 256) 8 = qbN (n / 256 / 256 / 256 / 256 / 256 / 256 / 256 % 256) 8 + qbN (n / 256 / 256 / 256 / 256 / 256 / 256 / 256 / 256) 0 := s _ 0
  have e8 : qbN (n / 256 / 256 / 256 / 256 / 256 / 256 / 256 / 256) 0 = 0 := rfl
  refine ⟨qbN (n % 256) 8, qbN (n / 256 % 256) 8, qbN (n / 256 / 256 % 256) 8, qbN (n / 256 / 256 / 256 % 256) 8, qbN (n / 256 / 256 / 256 / 256 % 256) 8, qbN (n / 256 / 256 / 256 / 256 / 256 % 256) 8, qbN (n / 256 / 256 / 256 / 256 / 256 / 256 % 256) 8, qbN (n / 256 / 256 / 256 / 256 / 256 / 256 / 256 % 256) 8, ⟨qbN_8le _, qbN_8le _, qbN_8le _, qbN_8le _, qbN_8le _, qbN_8le _, qbN_8le _, qbN_8le _⟩, ?_, ?_⟩
  · simp only [qfl, Nat.mul_zero, Nat.add_zero]
  · rw [e0, e1, e2, e3, e4, e5, e6, e7, e8]
    simp only [Nat.add_assoc, Nat.add_zero]
theorem qt0 {x a v : Nat} (hx : x < 18446744073709551616) (h : a ≤ x) (g : v = (18446744073709551616 - a + x) % 18446744073709551616) : v = x - a := by omega
theorem qt1 {a b v : Nat} (h : a + b < 18446744073709551616) (g : v = (a + b) % 18446744073709551616) : v = a + b := by rw [g, Nat.mod_eq_of_lt h]
theorem qt2 {u v w c0 c1 c2 c3 c4 c5 c6 c7 : Nat} (h : c0 ≤ 8 ∧ c1 ≤ 8 ∧ c2 ≤ 8 ∧ c3 ≤ 8 ∧ c4 ≤ 8 ∧ c5 ≤ 8 ∧ c6 ≤ 8 ∧ c7 ≤ 8) (hu : u = c0 + 256 * (c1 + 256 * (c2 + 256 * (c3 + 256 * (c4 + 256 * (c5 + 256 * (c6 + 256 * (c7)))))))) (hv : v = u / 256) (hw : w = (u + v) % 18446744073709551616) : w = (c0 + c1) + 256 * ((c1 + c2) + 256 * ((c2 + c3) + 256 * ((c3 + c4) + 256 * ((c4 + c5) + 256 * ((c5 + c6) + 256 * ((c6 + c7) + 256 * (c7))))))) := by
  have e : v = c1 + 256 * (c2 + 256 * (c3 + 256 * (c4 + 256 * (c5 + 256 * (c6 + 256 * (c7)))))) := by
    rw [hv, hu]
    omega
  rw [hw, e, hu]
  omega
theorem qt3 {u v w c0 c1 c2 c3 c4 c5 c6 c7 : Nat} (h : c0 ≤ 16 ∧ c1 ≤ 16 ∧ c2 ≤ 16 ∧ c3 ≤ 16 ∧ c4 ≤ 16 ∧ c5 ≤ 16 ∧ c6 ≤ 16 ∧ c7 ≤ 16) (hu : u = c0 + 256 * (c1 + 256 * (c2 + 256 * (c3 + 256 * (c4 + 256 * (c5 + 256 * (c6 + 256 * (c7)))))))) (hv : v = u / 65536) (hw : w = (u + v) % 18446744073709551616) : w = (c0 + c2) + 256 * ((c1 + c3) + 256 * ((c2 + c4) + 256 * ((c3 + c5) + 256 * ((c4 + c6) + 256 * ((c5 + c7) + 256 * (c6 + 256 * (c7))))))) := by
  have e : v = c2 + 256 * (c3 + 256 * (c4 + 256 * (c5 + 256 * (c6 + 256 * (c7))))) := by
    rw [hv, hu]
    omega
  rw [hw, e, hu]
  omega
theorem qt4 {u v w c0 c1 c2 c3 c4 c5 c6 c7 : Nat} (h : c0 ≤ 32 ∧ c1 ≤ 32 ∧ c2 ≤ 32 ∧ c3 ≤ 32 ∧ c4 ≤ 32 ∧ c5 ≤ 32 ∧ c6 ≤ 32 ∧ c7 ≤ 32) (hu : u = c0 + 256 * (c1 + 256 * (c2 + 256 * (c3 + 256 * (c4 + 256 * (c5 + 256 * (c6 + 256 * (c7)))))))) (hv : v = u / 4294967296) (hw : w = (u + v) % 18446744073709551616) : w = (c0 + c4) + 256 * ((c1 + c5) + 256 * ((c2 + c6) + 256 * ((c3 + c7) + 256 * (c4 + 256 * (c5 + 256 * (c6 + 256 * (c7))))))) := by
  have e : v = c4 + 256 * (c5 + 256 * (c6 + 256 * (c7))) := by
    rw [hv, hu]
    omega
  rw [hw, e, hu]
  omega
theorem qpop {x v1 v2 v3 v4 v5 v6 v7 v8 v9 v10 v11 v12 v13 v14 v15 v16 v17 : Int} (h1 : ql v1 = ql (ql_ushr x 1)) (h2 : ql v2 = ql (ql_and v1 6148914691236517205)) (h3 : ql v3 = ql (x - v2)) (h4 : ql v4 = ql (ql_and v3 3689348814741910323)) (h5 : ql v5 = ql (ql_ushr v3 2)) (h6 : ql v6 = ql (ql_and v5 3689348814741910323)) (h7 : ql v7 = ql (v4 + v6)) (h8 : ql v8 = ql (ql_ushr v7 4)) (h9 : ql v9 = ql (v7 + v8)) (h10 : ql v10 = ql (ql_and v9 1085102592571150095)) (h11 : ql v11 = ql (ql_ushr v10 8)) (h12 : ql v12 = ql (v10 + v11)) (h13 : ql v13 = ql (ql_ushr v12 16)) (h14 : ql v14 = ql (v12 + v13)) (h15 : ql v15 = ql (ql_ushr v14 32)) (h16 : ql v16 = ql (v14 + v15)) (h17 : qz v17 = qz v16) : qz_and v17 127 = (qbN (qlu x) 64 : Int) := by
  have hx := qlu_lt x
  have g1 : qlu v1 = qlu x / 2 := qlu_ushrN 1 (by decide) (by decide) h1
  have g2 := qlu_and h2
  have g3 := qlu_sub h3
  have g4 := qlu_and h4
  have g5 : qlu v5 = qlu v3 / 4 := qlu_ushrN 2 (by decide) (by decide) h5
  have g6 := qlu_and h6
  have g7 := qlu_add h7
  have g8 : qlu v8 = qlu v7 / 16 := qlu_ushrN 4 (by decide) (by decide) h8
  have g9 := qlu_add h9
  have g10 := qlu_and h10
  have g11 : qlu v11 = qlu v10 / 256 := qlu_ushrN 8 (by decide) (by decide) h11
  have g12 := qlu_add h12
  have g13 : qlu v13 = qlu v12 / 65536 := qlu_ushrN 16 (by decide) (by decide) h13
  have g14 := qlu_add h14
  have g15 : qlu v15 = qlu v14 / 4294967296 := qlu_ushrN 32 (by decide) (by decide) h15
  have g16 := qlu_add h16
  rw [show qlu 6148914691236517205 = qm5 8 from by decide +kernel] at g2
  rw [show qlu 3689348814741910323 = qm3 8 from by decide +kernel] at g4 g6
  rw [show qlu 1085102592571150095 = qmf 8 from by decide +kernel] at g10
  have l2 : qlu v2 ≤ qlu x / 2 := by rw [g2, g1]; exact Nat.and_le_left
  have k3 : qlu v3 = qs1 8 (qlu x) := by
    unfold qs1
    have e : (qlu x / 2 &&& qm5 8) = qlu v2 := by rw [g2, g1]
    rw [e]
    exact qt0 hx (Nat.le_trans l2 (Nat.div_le_self _ _)) g3
  have l4 : qlu v4 ≤ qm3 8 := by rw [g4]; exact Nat.and_le_right
  have l6 : qlu v6 ≤ qm3 8 := by rw [g6]; exact Nat.and_le_right
  have k7 : qlu v7 = qs2 8 (qs1 8 (qlu x)) ∧ qlu v7 ≤ qm3 8 + qm3 8 := by
    have e7 := qt1 (Nat.lt_of_le_of_lt (Nat.add_le_add l4 l6) (by decide +kernel)) g7
    refine ⟨?_, by rw [e7]; exact Nat.add_le_add l4 l6⟩
    unfold qs2
    rw [← k3]
    have e : (qlu v3 / 4 &&& qm3 8) = qlu v6 := by rw [g6, g5]
    rw [e, ← g4, e7]
  have k10 : qlu v10 = qfl 8 (qlu x) := by
    have l8 : qlu v8 ≤ qlu v7 := by rw [g8]; exact Nat.div_le_self _ _
    have e9 := qt1 (Nat.lt_of_le_of_lt (Nat.add_le_add k7.2 (Nat.le_trans l8 k7.2)) (by decide +kernel)) g9
    rw [← (qfl_ok 8 (qlu x) hx).1, ← k7.1]
    show qlu v10 = qlu v7 + qlu v7 / 16 &&& qmf 8
    rw [g10, e9, g8]
  obtain ⟨p0, p1, p2, p3, p4, p5, p6, p7, hp, hs, hb⟩ := qfl_sum (qlu x) hx
  rw [hs] at k10
  rw [hb]
  have k12 := qt2 hp k10 g11 g12
  have k14 := qt3 (by clear g1 g2 g3 g4 g5 g6 g7 g8 g9 g10 g11 g12 g13 g14 g15 g16 k3 k7 k10 k12 l2 l4 l6 hx hb hs; omega) k12 g13 g14
  have k16 := qt4 (by clear g1 g2 g3 g4 g5 g6 g7 g8 g9 g10 g11 g12 g13 g14 g15 g16 k3 k7 k10 k12 k14 l2 l4 l6 hx hb hs; omega) k14 g15 g16
  have e17 : (qz v17).toBitVec.toNat = qlu v16 % 4294967296 := by
    rw [h17]
    exact qz_lo v16
  clear g1 g2 g3 g4 g5 g6 g7 g8 g9 g10 g11 g12 g13 g14 g15 g16 k3 k7 k10 k12 k14 l2 l4 l6 hx hb hs h1 h2 h3 h4 h5 h6 h7 h8 h9 h10 h11 h12 h13 h14 h15 h16
  have k17 : qlu v16 % 128 = (p0 + p1 + p2 + p3 + p4 + p5 + p6 + p7) % 128 := by
    rw [k16]
    omega
  have e18 : (qz v17 &&& qz 127).toBitVec.toNat = (p0 + p1 + p2 + p3 + p4 + p5 + p6 + p7) % 128 := by
    rw [Int32.toBitVec_and, BitVec.toNat_and, e17, show (qz 127).toBitVec.toNat = 2 ^ 7 - 1 from by decide +kernel, Nat.and_two_pow_sub_one_eq_mod]
    clear k16 h17
    omega
  clear k16 k17 e17 h17
  have hm : (qz v17 &&& qz 127).toBitVec.msb = false := by
    rw [BitVec.msb_eq_decide, decide_eq_false_iff_not]
    omega
  have e19 : (qz v17 &&& qz 127).toInt = ((qz v17 &&& qz 127).toBitVec.toNat : Int) := BitVec.toInt_eq_toNat_of_msb hm
  unfold qz_and
  omega
