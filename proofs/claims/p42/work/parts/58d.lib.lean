/-! bits of longs; sums, rows of bits -/
theorem qlu_or (a b : Int) : qlu (ql_or a b) = qlu a ||| qlu b := by
  unfold qlu ql_or
  rw [← ql_of, Int64.toBitVec_or, BitVec.toNat_or]
theorem qlu_xor (a b : Int) : qlu (ql_xor a b) = qlu a ^^^ qlu b := by
  unfold qlu ql_xor
  rw [← ql_of, Int64.toBitVec_xor, BitVec.toNat_xor]
theorem qlu_m1 : qlu (-1) = 2 ^ 64 - 1 := by decide +kernel
theorem qlu_1s : ∀ p : Fin 64, qlu (ql_shl 1 ((p : Nat) : Int)) = 2 ^ (p : Nat) := by decide +kernel
theorem qbit_r (t i : Int) : 0 ≤ qbit t i ∧ qbit t i ≤ 1 := by
  unfold qbit
  omega
theorem qbit_if (t i : Int) : qbit t i = if (qlu t).testBit i.toNat = true then 1 else 0 := by
  unfold qbit
  rw [Nat.testBit_eq_decide_div_mod_eq]
  by_cases e : qlu t / 2 ^ i.toNat % 2 = 1
  · simp [e]
  · have h : qlu t / 2 ^ i.toNat % 2 = 0 := by omega
    simp [h]
theorem qbit_and (a b i : Int) : qbit (ql_and a b) i = if qbit a i = 1 ∧ qbit b i = 1 then 1 else 0 := by
  have h : qlu (ql_and a b) = qlu a &&& qlu b := qlu_and rfl
  rw [qbit_if (ql_and a b), qbit_if a, qbit_if b, h, Nat.testBit_and]
  cases (qlu a).testBit i.toNat <;> cases (qlu b).testBit i.toNat <;> simp
theorem qbit_or (a b i : Int) : qbit (ql_or a b) i = if qbit a i = 1 ∨ qbit b i = 1 then 1 else 0 := by
  rw [qbit_if (ql_or a b), qbit_if a, qbit_if b, qlu_or, Nat.testBit_or]
  cases (qlu a).testBit i.toNat <;> cases (qlu b).testBit i.toNat <;> simp
theorem qbit_not (a : Int) {i : Int} (h : 0 ≤ i ∧ i < 64) : qbit (ql_xor a (-1)) i = 1 - qbit a i := by
  rw [qbit_if (ql_xor a (-1)), qbit_if a, qlu_xor, qlu_m1, Nat.testBit_xor, Nat.testBit_two_pow_sub_one]
  have e : decide (i.toNat < 64) = true := by rw [decide_eq_true_eq]; omega
  rw [e]
  cases (qlu a).testBit i.toNat <;> simp
theorem qbit_shl {p i : Int} (hp : 0 ≤ p ∧ p < 64) (hi : 0 ≤ i) : qbit (ql_shl 1 p) i = if i = p then 1 else 0 := by
  obtain ⟨k, rfl⟩ : ∃ k : Nat, p = k := ⟨p.toNat, by omega⟩
  have h : qlu (ql_shl 1 (k : Int)) = 2 ^ k := qlu_1s ⟨k, by omega⟩
  rw [qbit_if, h, Nat.testBit_two_pow]
  by_cases e : i = k
  · rw [if_pos e, if_pos (by rw [decide_eq_true_eq]; omega)]
  · rw [if_neg e, if_neg (by rw [decide_eq_true_eq]; omega)]
theorem qbit_0 (i : Int) : qbit 0 i = 0 := by
  rw [qbit_if, show qlu 0 = 0 from by decide +kernel, Nat.zero_testBit]
  rfl
theorem qlu_hi (a : Int) {i : Nat} (h : 64 ≤ i) : (qlu a).testBit i = false := Nat.testBit_lt_two_pow (Nat.lt_of_lt_of_le (show qlu a < 2 ^ 64 from qlu_lt a) (Nat.pow_le_pow_right (by decide) h))
theorem qbit_ext {a b : Int} (ha : -9223372036854775808 ≤ a ∧ a ≤ 9223372036854775807) (hb : -9223372036854775808 ≤ b ∧ b ≤ 9223372036854775807) (h : ∀ i : Int, 0 ≤ i → i < 64 → qbit a i = qbit b i) : a = b := by
  have e : qlu a = qlu b := by
    refine Nat.eq_of_testBit_eq (fun i => ?_)
    by_cases hi : i < 64
    · have h1 := h (i : Int) (by omega) (by omega)
      rw [qbit_if, qbit_if b, Int.toNat_natCast] at h1
      revert h1
      cases (qlu a).testBit i <;> cases (qlu b).testBit i <;> simp
    · rw [qlu_hi a (by omega), qlu_hi b (by omega)]
  have h1 : ql a = ql b := Int64.toBitVec_inj.1 (BitVec.eq_of_toNat_eq e)
  have h2 := congrArg Int64.toInt h1
  rwa [ql_ti ha, ql_ti hb] at h2
theorem ql_or_r (a b : Int) : -9223372036854775808 ≤ ql_or a b ∧ ql_or a b ≤ 9223372036854775807 := ql_rng _
theorem ql_and_r (a b : Int) : -9223372036854775808 ≤ ql_and a b ∧ ql_and a b ≤ 9223372036854775807 := ql_rng _
theorem ql_xor_r (a b : Int) : -9223372036854775808 ≤ ql_xor a b ∧ ql_xor a b ≤ 9223372036854775807 := ql_rng _
theorem ql_shl_r (a b : Int) : -9223372036854775808 ≤ ql_shl a b ∧ ql_shl a b ≤ 9223372036854775807 := ql_rng _
/-- a long that a walk holds by its value is that value -/
theorem ql_val {v y : Int} (h : ql v = ql y) (hv : -9223372036854775808 ≤ v ∧ v ≤ 9223372036854775807) (hy : -9223372036854775808 ≤ y ∧ y ≤ 9223372036854775807) : v = y := (ql_eq hv hy).1 h
theorem qz_val {v y : Int} (h : qz v = qz y) (hv : -2147483648 ≤ v ∧ v ≤ 2147483647) (hy : -2147483648 ≤ y ∧ y ≤ 2147483647) : v = y := (qz_eq hv hy).1 h
/-- sums -/
def qsm (f : Nat → Int) : Nat → Int
  | 0 => 0
  | n + 1 => qsm f n + f n
theorem qsm_s (f : Nat → Int) {i : Int} (h : 0 ≤ i) : qsm f (i + 1).toNat = qsm f i.toNat + f i.toNat := by
  rw [show (i + 1).toNat = i.toNat + 1 by omega]
  rfl
theorem qsm_eq {f g : Nat → Int} : ∀ n : Nat, (∀ k, k < n → f k = g k) → qsm f n = qsm g n
  | 0, _ => rfl
  | n + 1, h => by
    show qsm f n + f n = qsm g n + g n
    rw [qsm_eq n (fun k hk => h k (by omega)), h n (by omega)]
theorem qsm_01 {f : Nat → Int} (h : ∀ k, 0 ≤ f k ∧ f k ≤ 1) : ∀ n : Nat, 0 ≤ qsm f n ∧ qsm f n ≤ n
  | 0 => by show (0 : Int) ≤ 0 ∧ (0 : Int) ≤ 0; omega
  | n + 1 => by
    have h1 := qsm_01 h n
    have h2 := h n
    show 0 ≤ qsm f n + f n ∧ qsm f n + f n ≤ ((n + 1 : Nat) : Int)
    omega
theorem qcn_sm (t : Int) : ∀ n : Nat, qcn t (n : Int) = qsm (fun k => qbit t (k : Int)) n
  | 0 => qcn_0 t
  | n + 1 => by
    have h1 := (qcn_s t (i := (n : Int)) (by omega)).1
    rw [show ((n + 1 : Nat) : Int) = (n : Int) + 1 by omega, h1, qcn_sm t n]
    rfl
/-- rows of bits -/
def qbs (f : Nat → Int) : Nat → Int
  | 0 => 0
  | n + 1 => if f n = 1 then ql_or (qbs f n) (ql_shl 1 (n : Int)) else qbs f n
theorem qbs_s (f : Nat → Int) {i : Int} (h : 0 ≤ i) : (f i.toNat = 1 ∧ qbs f (i + 1).toNat = ql_or (qbs f i.toNat) (ql_shl 1 i)) ∨ (¬ f i.toNat = 1 ∧ qbs f (i + 1).toNat = qbs f i.toNat) := by
  obtain ⟨n, rfl⟩ : ∃ n : Nat, i = n := ⟨i.toNat, by omega⟩
  rw [show ((n : Int) + 1).toNat = n + 1 by omega, Int.toNat_natCast]
  by_cases e : f n = 1
  · exact Or.inl ⟨e, if_pos e⟩
  · exact Or.inr ⟨e, if_neg e⟩
theorem qbs_r (f : Nat → Int) : ∀ n : Nat, -9223372036854775808 ≤ qbs f n ∧ qbs f n ≤ 9223372036854775807
  | 0 => by show (-9223372036854775808 : Int) ≤ 0 ∧ (0 : Int) ≤ 9223372036854775807; omega
  | n + 1 => by
    show -9223372036854775808 ≤ (if f n = 1 then ql_or (qbs f n) (ql_shl 1 (n : Int)) else qbs f n) ∧ (if f n = 1 then ql_or (qbs f n) (ql_shl 1 (n : Int)) else qbs f n) ≤ 9223372036854775807
    split
    · exact ql_or_r _ _
    · exact qbs_r f n
theorem qbs_bit (f : Nat → Int) {i : Int} (hi : 0 ≤ i) : ∀ n : Nat, n ≤ 64 → qbit (qbs f n) i = if i < (n : Int) ∧ f i.toNat = 1 then 1 else 0
  | 0, _ => by
    rw [if_neg (by omega)]
    exact qbit_0 i
  | n + 1, hn => by
    have ih := qbs_bit f hi n (by omega)
    show qbit (if f n = 1 then ql_or (qbs f n) (ql_shl 1 (n : Int)) else qbs f n) i = _
    by_cases e : f n = 1
    · rw [if_pos e, qbit_or, qbit_shl (by omega) hi, ih]
      by_cases e2 : i = (n : Int)
      · have e3 : i.toNat = n := by omega
        rw [if_pos (Or.inr (if_pos e2)), e3, if_pos ⟨by omega, e⟩]
      · by_cases e3 : i < (n : Int) ∧ f i.toNat = 1
        · rw [if_pos (Or.inl (if_pos e3)), if_pos ⟨by omega, e3.2⟩]
        · rw [if_neg (by rw [if_neg e3, if_neg e2]; omega), if_neg (fun h => e3 ⟨by omega, h.2⟩)]
    · rw [if_neg e, ih]
      by_cases e3 : i < (n : Int) ∧ f i.toNat = 1
      · rw [if_pos e3, if_pos ⟨by omega, e3.2⟩]
      · by_cases e2 : i = (n : Int)
        · have e4 : i.toNat = n := by omega
          rw [if_neg e3, if_neg (fun h => e (by rw [← e4]; exact h.2))]
        · rw [if_neg e3, if_neg (fun h => e3 ⟨by omega, h.2⟩)]
theorem qbs_eq {f g : Nat → Int} : ∀ n : Nat, (∀ k, k < n → f k = g k) → qbs f n = qbs g n
  | 0, _ => rfl
  | n + 1, h => by
    show (if f n = 1 then ql_or (qbs f n) (ql_shl 1 (n : Int)) else qbs f n) = (if g n = 1 then ql_or (qbs g n) (ql_shl 1 (n : Int)) else qbs g n)
    rw [qbs_eq n (fun k hk => h k (by omega)), h n (by omega)]
/-- a row of bits of numbers that are 0 or 1 holds as many as their sum -/
theorem qbs_cn {f : Nat → Int} (h : ∀ k, 0 ≤ f k ∧ f k ≤ 1) {n : Nat} (hn : n ≤ 64) : qcn (qbs f n) 64 = qsm f n := by
  have e := qcn_sm (qbs f n) 64
  rw [show ((64 : Nat) : Int) = 64 from rfl] at e
  rw [e]
  have g : ∀ m : Nat, m ≤ n → qsm (fun k => qbit (qbs f n) (k : Int)) m = qsm f m := fun m hm => qsm_eq m (fun k hk => by
    show qbit (qbs f n) (k : Int) = f k
    have hk2 := h k
    rw [qbs_bit f (by omega) n hn, Int.toNat_natCast]
    by_cases e1 : f k = 1
    · rw [if_pos ⟨by omega, e1⟩, e1]
    · rw [if_neg (fun z => e1 z.2)]
      omega)
  have g2 : ∀ m : Nat, qsm (fun k => qbit (qbs f n) (k : Int)) (n + m) = qsm f n := by
    intro m
    induction m with
    | zero => exact g n (Nat.le_refl n)
    | succ m ih =>
      show qsm (fun k => qbit (qbs f n) (k : Int)) (n + m) + qbit (qbs f n) ((n + m : Nat) : Int) = _
      rw [ih, qbs_bit f (by omega) n hn, if_neg (by omega)]
      omega
  have g3 := g2 (64 - n)
  rwa [show n + (64 - n) = 64 by omega] at g3
/-- two steps, how near by a feud: a, b one way about, c, d the other one -/
def qcl (a b c d t : Int) : Int := if c ≤ t ∧ d ≤ t ∧ c + d < (if a ≤ t ∧ b ≤ t then a + b else 9) then c + d else if a ≤ t ∧ b ≤ t then a + b else 9
theorem qcl_c (a b c d t : Int) : ((a ≤ t ∧ b ≤ t) ∧ ((c ≤ t ∧ d ≤ t ∧ c + d < a + b ∧ qcl a b c d t = c + d) ∨ (¬ (c ≤ t ∧ d ≤ t ∧ c + d < a + b) ∧ qcl a b c d t = a + b))) ∨ (¬ (a ≤ t ∧ b ≤ t) ∧ ((c ≤ t ∧ d ≤ t ∧ c + d < 9 ∧ qcl a b c d t = c + d) ∨ (¬ (c ≤ t ∧ d ≤ t ∧ c + d < 9) ∧ qcl a b c d t = 9))) := by
  unfold qcl
  by_cases e : a ≤ t ∧ b ≤ t
  · rw [if_pos e]
    by_cases e2 : c ≤ t ∧ d ≤ t ∧ c + d < a + b
    · rw [if_pos e2]
      exact Or.inl ⟨e, Or.inl ⟨e2.1, e2.2.1, e2.2.2, rfl⟩⟩
    · rw [if_neg e2]
      exact Or.inl ⟨e, Or.inr ⟨e2, rfl⟩⟩
  · rw [if_neg e]
    by_cases e2 : c ≤ t ∧ d ≤ t ∧ c + d < 9
    · rw [if_pos e2]
      exact Or.inr ⟨e, Or.inl ⟨e2.1, e2.2.1, e2.2.2, rfl⟩⟩
    · rw [if_neg e2]
      exact Or.inr ⟨e, Or.inr ⟨e2, rfl⟩⟩
/-- whether a feud is open at an hour: since, paid, whether it is paid in thought -/
def qop (sn pd st h : Int) : Int := if sn ≤ h ∧ (pd = 2400 ∨ h < pd) ∧ st = 0 then 1 else 0
theorem qop_c (sn pd st h : Int) : (qop sn pd st h = 1 ∧ sn ≤ h ∧ (pd = 2400 ∨ h < pd) ∧ st = 0) ∨ (qop sn pd st h = 0 ∧ ¬ (sn ≤ h ∧ (pd = 2400 ∨ h < pd) ∧ st = 0)) := by
  unfold qop
  split
  · next e => exact Or.inl ⟨rfl, e⟩
  · next e => exact Or.inr ⟨rfl, e⟩
/-- the nearest of the first feuds: 64 times how near, and its number; 576: none -/
def qnk (o c : Nat → Int) : Nat → Int
  | 0 => 576
  | n + 1 => if o n = 1 ∧ c n * 64 + (n : Int) < qnk o c n then c n * 64 + (n : Int) else qnk o c n
theorem qnk_s (o c : Nat → Int) {i : Int} (h : 0 ≤ i) : (o i.toNat = 1 ∧ c i.toNat * 64 + i < qnk o c i.toNat ∧ qnk o c (i + 1).toNat = c i.toNat * 64 + i) ∨ (¬ (o i.toNat = 1 ∧ c i.toNat * 64 + i < qnk o c i.toNat) ∧ qnk o c (i + 1).toNat = qnk o c i.toNat) := by
  obtain ⟨n, rfl⟩ : ∃ n : Nat, i = n := ⟨i.toNat, by omega⟩
  rw [show ((n : Int) + 1).toNat = n + 1 by omega, Int.toNat_natCast]
  by_cases e : o n = 1 ∧ c n * 64 + (n : Int) < qnk o c n
  · exact Or.inl ⟨e.1, e.2, if_pos e⟩
  · exact Or.inr ⟨e, if_neg e⟩
theorem qnk_eq {o c o' c' : Nat → Int} : ∀ n : Nat, (∀ k, k < n → o k = o' k ∧ c k = c' k) → qnk o c n = qnk o' c' n
  | 0, _ => rfl
  | n + 1, h => by
    show (if o n = 1 ∧ c n * 64 + (n : Int) < qnk o c n then c n * 64 + (n : Int) else qnk o c n) = (if o' n = 1 ∧ c' n * 64 + (n : Int) < qnk o' c' n then c' n * 64 + (n : Int) else qnk o' c' n)
    rw [qnk_eq n (fun k hk => h k (by omega)), (h n (by omega)).1, (h n (by omega)).2]
theorem qb63s : ∀ k : Fin 64, ((qz ((k : Nat) : Int)).toInt64 &&& 63).toBitVec.smod 64 = BitVec.ofNat 64 (k : Nat) := by decide +kernel
/-- whether a place of a long is set, by a shift that keeps the sign -/
theorem qbit_inS {t i v1 v2 : Int} (hi : 0 ≤ i ∧ i ≤ 63) (hr : -9223372036854775808 ≤ v2 ∧ v2 ≤ 9223372036854775807) (h1 : ql v1 = ql (ql_shr t i)) (h2 : ql v2 = ql (ql_and v1 1)) : v2 = qbit t i ∧ 0 ≤ v2 ∧ v2 ≤ 1 := by
  obtain ⟨m, rfl⟩ : ∃ m : Nat, i = m := ⟨i.toNat, by omega⟩
  have hm : m < 64 := by omega
  have g0 : (ql v1).toBitVec = (ql t).toBitVec.sshiftRight m := by
    rw [h1]
    unfold ql_shr
    rw [← ql_of, Int64.toBitVec_shiftRight, qb63s ⟨m, hm⟩]
    show (ql t).toBitVec.sshiftRight (BitVec.ofNat 64 m).toNat = _
    rw [BitVec.toNat_ofNat, Nat.mod_eq_of_lt (by omega)]
  have g3 : (qlu v1).testBit 0 = (qlu t).testBit m := by
    unfold qlu
    rw [BitVec.testBit_toNat, BitVec.testBit_toNat, g0, BitVec.getLsbD_sshiftRight]
    simp [hm]
  have g2 := qlu_and h2
  rw [show qlu 1 = 2 ^ 1 - 1 from by decide +kernel, Nat.and_two_pow_sub_one_eq_mod] at g2
  rw [Nat.testBit_eq_decide_div_mod_eq, Nat.testBit_eq_decide_div_mod_eq, decide_eq_decide] at g3
  have g4 := qlu_sm hr (by omega)
  have g5 : qlu v1 / 2 ^ 0 = qlu v1 := by rw [Nat.pow_zero, Nat.div_one]
  rw [g5] at g3
  unfold qbit
  rw [Int.toNat_natCast]
  omega
def qsh (f : Nat → Int) (k : Nat) : Nat → Int := fun j => f (k + j)
def qoF (sn pd : Nat → Int) (st h : Int) (f : Nat) : Int := qop (sn f) (pd f) (qbit st (f : Int)) h
def qcF (D : Int → Int → Int) (kd kr bd : Nat → Int) (p q : Int) (f : Nat) : Int := qcl (D p (kd f)) (D q (kr f)) (D q (kd f)) (D p (kr f)) (bd f)
/-- the nearest of all feuds -/
def qnF (D : Int → Int → Int) (kd kr bd sn pd : Nat → Int) (st n p q h : Int) : Int := qnk (qoF sn pd st h) (qcF D kd kr bd p q) n.toNat
theorem qoF_a (sn pd : Nat → Int) (st h : Int) {i : Int} (hi : 0 ≤ i) : qoF sn pd st h i.toNat = qop (sn i.toNat) (pd i.toNat) (qbit st i) h := by
  unfold qoF
  rw [Int.toNat_of_nonneg hi]
/-! bits of ints -/
def qlz (a : Int) : Nat := (qz a).toBitVec.toNat
theorem qlz_lt (a : Int) : qlz a < 4294967296 := (qz a).toBitVec.isLt
def qbi (t i : Int) : Int := ((qlz t / 2 ^ i.toNat % 2 : Nat) : Int)
theorem qlz_and {v a b : Int} (h : qz v = qz (qz_and a b)) : qlz v = qlz a &&& qlz b := by
  unfold qlz
  rw [h]
  unfold qz_and
  rw [← qz_of, Int32.toBitVec_and, BitVec.toNat_and]
theorem qlz_or (a b : Int) : qlz (qz_or a b) = qlz a ||| qlz b := by
  unfold qlz qz_or
  rw [← qz_of, Int32.toBitVec_or, BitVec.toNat_or]
theorem qlz_xor (a b : Int) : qlz (qz_xor a b) = qlz a ^^^ qlz b := by
  unfold qlz qz_xor
  rw [← qz_of, Int32.toBitVec_xor, BitVec.toNat_xor]
theorem qlz_m1 : qlz (-1) = 2 ^ 32 - 1 := by decide +kernel
theorem qlz_1s : ∀ p : Fin 32, qlz (qz_shl 1 ((p : Nat) : Int)) = 2 ^ (p : Nat) := by decide +kernel
theorem qbi_r (t i : Int) : 0 ≤ qbi t i ∧ qbi t i ≤ 1 := by
  unfold qbi
  omega
theorem qbi_if (t i : Int) : qbi t i = if (qlz t).testBit i.toNat = true then 1 else 0 := by
  unfold qbi
  rw [Nat.testBit_eq_decide_div_mod_eq]
  by_cases e : qlz t / 2 ^ i.toNat % 2 = 1
  · simp [e]
  · have h : qlz t / 2 ^ i.toNat % 2 = 0 := by omega
    simp [h]
theorem qbi_and (a b i : Int) : qbi (qz_and a b) i = if qbi a i = 1 ∧ qbi b i = 1 then 1 else 0 := by
  have h : qlz (qz_and a b) = qlz a &&& qlz b := qlz_and rfl
  rw [qbi_if (qz_and a b), qbi_if a, qbi_if b, h, Nat.testBit_and]
  cases (qlz a).testBit i.toNat <;> cases (qlz b).testBit i.toNat <;> simp
theorem qbi_or (a b i : Int) : qbi (qz_or a b) i = if qbi a i = 1 ∨ qbi b i = 1 then 1 else 0 := by
  rw [qbi_if (qz_or a b), qbi_if a, qbi_if b, qlz_or, Nat.testBit_or]
  cases (qlz a).testBit i.toNat <;> cases (qlz b).testBit i.toNat <;> simp
theorem qbi_not (a : Int) {i : Int} (h : 0 ≤ i ∧ i < 32) : qbi (qz_xor a (-1)) i = 1 - qbi a i := by
  rw [qbi_if (qz_xor a (-1)), qbi_if a, qlz_xor, qlz_m1, Nat.testBit_xor, Nat.testBit_two_pow_sub_one]
  have e : decide (i.toNat < 32) = true := by rw [decide_eq_true_eq]; omega
  rw [e]
  cases (qlz a).testBit i.toNat <;> simp
theorem qbi_shl {p i : Int} (hp : 0 ≤ p ∧ p < 32) (hi : 0 ≤ i) : qbi (qz_shl 1 p) i = if i = p then 1 else 0 := by
  obtain ⟨k, rfl⟩ : ∃ k : Nat, p = k := ⟨p.toNat, by omega⟩
  have h : qlz (qz_shl 1 (k : Int)) = 2 ^ k := qlz_1s ⟨k, by omega⟩
  rw [qbi_if, h, Nat.testBit_two_pow]
  by_cases e : i = k
  · rw [if_pos e, if_pos (by rw [decide_eq_true_eq]; omega)]
  · rw [if_neg e, if_neg (by rw [decide_eq_true_eq]; omega)]
theorem qlz_hi (a : Int) {i : Nat} (h : 32 ≤ i) : (qlz a).testBit i = false := Nat.testBit_lt_two_pow (Nat.lt_of_lt_of_le (show qlz a < 2 ^ 32 from qlz_lt a) (Nat.pow_le_pow_right (by decide) h))
theorem qbi_ext {a b : Int} (ha : -2147483648 ≤ a ∧ a ≤ 2147483647) (hb : -2147483648 ≤ b ∧ b ≤ 2147483647) (h : ∀ i : Int, 0 ≤ i → i < 32 → qbi a i = qbi b i) : a = b := by
  have e : qlz a = qlz b := by
    refine Nat.eq_of_testBit_eq (fun i => ?_)
    by_cases hi : i < 32
    · have h1 := h (i : Int) (by omega) (by omega)
      rw [qbi_if, qbi_if b, Int.toNat_natCast] at h1
      revert h1
      cases (qlz a).testBit i <;> cases (qlz b).testBit i <;> simp
    · rw [qlz_hi a (by omega), qlz_hi b (by omega)]
  have h1 : qz a = qz b := Int32.toBitVec_inj.1 (BitVec.eq_of_toNat_eq e)
  have h2 := congrArg Int32.toInt h1
  rwa [qz_ti ha, qz_ti hb] at h2
theorem qz_xor_r (a b : Int) : -2147483648 ≤ qz_xor a b ∧ qz_xor a b ≤ 2147483647 := qz_rng _
theorem qlz_nn {a : Int} (h : 0 ≤ a ∧ a ≤ 2147483647) : (qlz a : Int) = a := by
  have h1 : (qz a).toInt = a := qz_ti (by omega)
  have hm := qz_msb (x := qz a) (by rw [h1]; exact h.1)
  have h2 : (qz a).toInt = ((qz a).toBitVec.toNat : Int) := BitVec.toInt_eq_toNat_of_msb hm
  unfold qlz
  omega
theorem qb31s : ∀ k : Fin 32, (qz ((k : Nat) : Int) &&& 31).toBitVec.smod 32 = BitVec.ofNat 32 (k : Nat) := by decide +kernel
theorem qbi_inS {t i v1 v2 : Int} (hi : 0 ≤ i ∧ i ≤ 31) (h1 : qz v1 = qz (qz_shr t i)) (h2 : v2 = qz_and v1 1) (hr : 0 ≤ v2 ∧ v2 ≤ 1) : v2 = qbi t i := by
  obtain ⟨m, rfl⟩ : ∃ m : Nat, i = m := ⟨i.toNat, by omega⟩
  have hm : m < 32 := by omega
  have g0 : (qz v1).toBitVec = (qz t).toBitVec.sshiftRight m := by
    rw [h1]
    unfold qz_shr
    rw [← qz_of, Int32.toBitVec_shiftRight, qb31s ⟨m, hm⟩]
    show (qz t).toBitVec.sshiftRight (BitVec.ofNat 32 m).toNat = _
    rw [BitVec.toNat_ofNat, Nat.mod_eq_of_lt (by omega)]
  have g3 : (qlz v1).testBit 0 = (qlz t).testBit m := by
    unfold qlz
    rw [BitVec.testBit_toNat, BitVec.testBit_toNat, g0, BitVec.getLsbD_sshiftRight]
    simp [hm]
  have g2 : qlz v2 = qlz v1 &&& qlz 1 := qlz_and (by rw [h2])
  rw [show qlz 1 = 2 ^ 1 - 1 from by decide +kernel, Nat.and_two_pow_sub_one_eq_mod] at g2
  rw [Nat.testBit_eq_decide_div_mod_eq, Nat.testBit_eq_decide_div_mod_eq, decide_eq_decide] at g3
  have g4 := qlz_nn (a := v2) (by omega)
  have g5 : qlz v1 / 2 ^ 0 = qlz v1 := by rw [Nat.pow_zero, Nat.div_one]
  rw [g5] at g3
  unfold qbi
  rw [Int.toNat_natCast]
  omega
