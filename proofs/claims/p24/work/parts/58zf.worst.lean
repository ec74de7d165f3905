/-! the worst -/
def qnc (n : Nat) : Nat → Nat
  | 0 => 0
  | m + 1 => n % 2 + qnc (n / 2) m
theorem qnc_low : ∀ (m n : Nat), n < 2 ^ m → 0 < n → qnc (n &&& (n - 1)) m + 1 = qnc n m
  | 0, n, h, h0 => by simp at h; omega
  | m + 1, n, h, h0 => by
    have h2 : n / 2 < 2 ^ m := by have e : 2 ^ (m + 1) = 2 * 2 ^ m := by rw [Nat.pow_succ, Nat.mul_comm]
                                  omega
    have hd : (n &&& (n - 1)) / 2 = n / 2 &&& (n - 1) / 2 := by
      apply Nat.eq_of_testBit_eq
      intro i
      rw [Nat.testBit_div_two, Nat.testBit_and, Nat.testBit_and, Nat.testBit_div_two, Nat.testBit_div_two]
    have hm : (n &&& (n - 1)) % 2 = 0 := by
      have a : (n &&& (n - 1)).testBit 0 = (n.testBit 0 && (n - 1).testBit 0) := Nat.testBit_and _ _ _
      rw [Nat.testBit_zero, Nat.testBit_zero, Nat.testBit_zero] at a
      rcases Nat.mod_two_eq_zero_or_one n with c | c
      · have d : decide (n % 2 = 1) = false := by rw [c]; rfl
        rw [d, Bool.false_and] at a
        have := of_decide_eq_false a
        omega
      · have d : decide ((n - 1) % 2 = 1) = false := decide_eq_false (by omega)
        rw [d, Bool.and_false] at a
        have := of_decide_eq_false a
        omega
    show (n &&& (n - 1)) % 2 + qnc ((n &&& (n - 1)) / 2) m + 1 = n % 2 + qnc (n / 2) m
    rw [hm, hd]
    rcases Nat.mod_two_eq_zero_or_one n with c | c
    · have ih := qnc_low m (n / 2) h2 (by omega)
      rw [show (n - 1) / 2 = n / 2 - 1 by omega, c]
      omega
    · rw [show (n - 1) / 2 = n / 2 by omega, Nat.and_self, c]
      omega
theorem qnc_sm : ∀ (m n : Nat), ((qnc n m : Nat) : Int) = qsm (fun k => ((n / 2 ^ k % 2 : Nat) : Int)) m
  | 0, _ => rfl
  | m + 1, n => by
    have sh : ∀ (m : Nat) (f : Nat → Int), qsm f (m + 1) = f 0 + qsm (fun k => f (k + 1)) m := by
      intro m
      induction m with
      | zero => intro f; show 0 + f 0 = f 0 + 0; omega
      | succ m ih =>
        intro f
        have h := ih f
        show qsm f (m + 1) + f (m + 1) = f 0 + (qsm (fun k => f (k + 1)) m + f (m + 1))
        omega
    rw [sh m]
    have ih := qnc_sm m (n / 2)
    show ((n % 2 + qnc (n / 2) m : Nat) : Int) = ((n / 2 ^ 0 % 2 : Nat) : Int) + qsm (fun k => ((n / 2 ^ (k + 1) % 2 : Nat) : Int)) m
    rw [Int.natCast_add, ih, Nat.pow_zero, Nat.div_one]
    congr 1
    refine qsm_eq m (fun k _ => ?_)
    rw [Nat.div_div_eq_div_mul, Nat.pow_succ, Nat.mul_comm 2]
theorem qcn_nc (t : Int) : qcn t 64 = ((qnc (qlu t) 64 : Nat) : Int) := by
  rw [qnc_sm]
  exact qcn_sm t 64
theorem qcn_low {t v w : Int} (h1 : ql w = ql (t - 1)) (h2 : ql v = ql (ql_and t w)) (h0 : ¬ t = 0) (ht : -9223372036854775808 ≤ t ∧ t ≤ 9223372036854775807) : qcn v 64 = qcn t 64 - 1 := by
  have e1 : qlu w = (18446744073709551616 - qlu 1 + qlu t) % 18446744073709551616 := qlu_sub h1
  have e2 : qlu 1 = 1 := by decide
  have e3 := qlu_and h2
  have e4 := qlu_lt t
  have e5 : ¬ qlu t = 0 := fun z => h0 ((qlu_z ht).mpr z)
  have e6 : qlu w = qlu t - 1 := by omega
  rw [qcn_nc, qcn_nc, e3, e6]
  have h := qnc_low 64 (qlu t) (by rw [show (2 : Nat) ^ 64 = 18446744073709551616 by decide]; exact e4) (by omega)
  omega
/-- the least of all by a count, of like ones the first -/
def qwB (D : Int → Prop) (c : Int → Int) (f0 b w f : Int) : Prop := (w = -2 ∧ f = f0 ∧ ∀ u, u < b → ¬ D u) ∨ (D w ∧ w < b ∧ f = c w ∧ ∀ u, u < b → D u → c w ≤ c u ∧ (u < w → c w < c u))
def qwF (D : Int → Prop) (c : Int → Int) (w : Int) : Prop := (w = -2 ∧ ∀ u, ¬ D u) ∨ (D w ∧ ∀ u, D u → c w ≤ c u ∧ (u < w → c w < c u))
theorem qwF_un {D : Int → Prop} {c : Int → Int} {w w' : Int} (h : qwF D c w) (g : qwF D c w') : w = w' := by
  rcases h with ⟨h1, h2⟩ | ⟨h1, h2⟩
  · rcases g with ⟨g1, _⟩ | ⟨g1, _⟩
    · omega
    · exact absurd g1 (h2 _)
  · rcases g with ⟨_, g2⟩ | ⟨g1, g2⟩
    · exact absurd h1 (g2 _)
    · have a := h2 w' g1
      have b := g2 w h1
      by_cases x : w < w'
      · have := b.2 x
        omega
      · by_cases y : w' < w
        · have := a.2 y
          omega
        · omega
theorem qwB_row {D : Int → Prop} {c : Int → Int} {f0 b b' w f : Int} (hb : b ≤ b') (hn : ∀ u, b ≤ u → u < b' → ¬ D u) (h : qwB D c f0 b w f) : qwB D c f0 b' w f := by
  rcases h with ⟨h1, h2, h3⟩ | ⟨h1, h2, h3, h4⟩
  · refine Or.inl ⟨h1, h2, fun u hu => ?_⟩
    by_cases x : u < b
    · exact h3 u x
    · exact hn u (by omega) hu
  · refine Or.inr ⟨h1, by omega, h3, fun u hu hd => ?_⟩
    by_cases x : u < b
    · exact h4 u x hd
    · exact absurd hd (hn u (by omega) hu)
theorem qwB_no {D : Int → Prop} {c : Int → Int} {f0 b w f : Int} (hf : f ≤ c b) (h0 : c b < f0) (h : qwB D c f0 b w f) : qwB D c f0 (b + 1) w f := by
  rcases h with ⟨h1, h2, h3⟩ | ⟨h1, h2, h3, h4⟩
  · omega
  · refine Or.inr ⟨h1, by omega, h3, fun u hu hd => ?_⟩
    by_cases x : u < b
    · exact h4 u x hd
    · have e : u = b := by omega
      rw [e]
      exact ⟨by omega, fun z => by omega⟩
theorem qwB_new {D : Int → Prop} {c : Int → Int} {f0 b w f : Int} (hd : D b) (hf : c b < f) (h : qwB D c f0 b w f) : qwB D c f0 (b + 1) b (c b) := by
  refine Or.inr ⟨hd, by omega, rfl, fun u hu hdu => ?_⟩
  by_cases x : u < b
  · rcases h with ⟨_, _, h3⟩ | ⟨_, _, h3, h4⟩
    · exact absurd hdu (h3 u x)
    · have := h4 u x hdu
      exact ⟨by omega, fun _ => by omega⟩
  · have e : u = b := by omega
    rw [e]
    exact ⟨Int.le_refl _, fun z => absurd z (by omega)⟩
theorem qwB_end {D : Int → Prop} {c : Int → Int} {f0 b w f : Int} (hn : ∀ u, b ≤ u → ¬ D u) (h : qwB D c f0 b w f) : qwF D c w := by
  rcases h with ⟨h1, _, h3⟩ | ⟨h1, _, _, h4⟩
  · refine Or.inl ⟨h1, fun u hd => ?_⟩
    by_cases x : u < b
    · exact h3 u x hd
    · exact hn u (by omega) hd
  · refine Or.inr ⟨h1, fun u hd => ?_⟩
    by_cases x : u < b
    · exact h4 u x hd
    · exact absurd hd (hn u (by omega))
theorem qwB_stop {D : Int → Prop} {c : Int → Int} {f0 b w f : Int} (h1c : ∀ u, D u → 1 ≤ c u) (hd : D b) (hf : c b < f) (h1 : c b ≤ 1) (h : qwB D c f0 b w f) : qwF D c b := by
  refine Or.inr ⟨hd, fun u hu => ⟨by have := h1c u hu; omega, fun x => ?_⟩⟩
  rcases h with ⟨_, _, h3⟩ | ⟨_, _, h3, h4⟩
  · exact absurd hu (h3 u x)
  · have := h4 u x hu
    omega
/-- who is left of a telling: one at least, and of those there alone -/
theorem qtell_sub {H : Int → Int → Int → Nat → Int} {B : Int → Nat → Int} {n : Nat} {W : Int → Int → Int → Int → Int → Int → Int} {N : Int} {i : Int} : ∀ (k : Nat) (s : qTS), qbit (qtell H B n W N k s).2.1 i = 1 → qbit s.2.1 i = 1
  | 0, s, h => h
  | k + 1, s, h => by
    by_cases c : qnext W N s < 0
    · rw [show qtell H B n W N (k + 1) s = s from if_pos c] at h
      exact h
    · rw [show qtell H B n W N (k + 1) s = qtell H B n W N k (qland H B n s (qnext W N s)) from if_neg c] at h
      have h1 := qtell_sub k _ h
      have h2 := qband_c s.2.1 (ql_xor (ql_shl 1 (qnext W N s % 100)) (-1)) i
      have h3 : qbit (ql_and s.2.1 (ql_xor (ql_shl 1 (qnext W N s % 100)) (-1))) i = 1 := h1
      omega
theorem qland_left {H : Int → Int → Int → Nat → Int} {B : Int → Nat → Int} {n : Nat} {s : qTS} {v : Int} (h0 : 0 ≤ v / 100 ∧ v / 100 < 64) (h1 : v % 100 < 64) (hne : ¬ v / 100 = v % 100) (hb : qbit s.2.1 (v / 100) = 1) : qbit (qland H B n s v).2.1 (v / 100) = 1 := by
  show qbit (ql_and s.2.1 (ql_xor (ql_shl 1 (v % 100)) (-1))) (v / 100) = 1
  have h2 := qband_c s.2.1 (ql_xor (ql_shl 1 (v % 100)) (-1)) (v / 100)
  have h3 := qbit_not (ql_shl 1 (v % 100)) h0
  have h4 := qbit_shl (p := v % 100) (i := v / 100) (by omega) h0.1
  rw [if_neg hne] at h4
  omega
theorem qnext_c {W : Int → Int → Int → Int → Int → Int → Int} {N : Int} {s : qTS} (hN : N ≤ 32) (h : ¬ qnext W N s < 0) : (0 ≤ qnext W N s / 100 ∧ qnext W N s / 100 < 32 ∧ qnext W N s % 100 < 32) ∧ ¬ qnext W N s / 100 = qnext W N s % 100 ∧ qbit s.2.1 (qnext W N s / 100) = 1 := by
  have a := qFst_ex (qkC1 W s) N hN
  have b := qFst_ex (qkC0 W s) N hN
  by_cases c : qfst (qkC1 W s) N < 0
  · have e : qnext W N s = qfst (qkC0 W s) N := if_pos c
    rw [e] at h ⊢
    rcases b with b | ⟨b1, b2, _⟩
    · exact absurd b.1 (by omega)
    · exact ⟨by omega, b2.1, b2.2.1⟩
  · have e : qnext W N s = qfst (qkC1 W s) N := if_neg c
    rw [e] at h ⊢
    rcases a with a | ⟨a1, a2, _⟩
    · exact absurd a.1 (by omega)
    · exact ⟨by omega, a2.1, a2.2.1⟩
theorem qtell_left {H : Int → Int → Int → Nat → Int} {B : Int → Nat → Int} {n : Nat} {W : Int → Int → Int → Int → Int → Int → Int} {N : Int} (hN : N ≤ 32) : ∀ (k : Nat) (s : qTS), (∃ i : Int, (0 ≤ i ∧ i < 64) ∧ qbit s.2.1 i = 1) → ∃ i : Int, (0 ≤ i ∧ i < 64) ∧ qbit (qtell H B n W N k s).2.1 i = 1
  | 0, s, h => h
  | k + 1, s, h => by
    by_cases c : qnext W N s < 0
    · rw [show qtell H B n W N (k + 1) s = s from if_pos c]
      exact h
    · rw [show qtell H B n W N (k + 1) s = qtell H B n W N k (qland H B n s (qnext W N s)) from if_neg c]
      have d := qnext_c hN c
      exact qtell_left hN k _ ⟨_, by omega, qland_left (by omega) (by omega) d.2.1 d.2.2⟩
theorem qsm_ge {f : Nat → Int} (h01 : ∀ k, 0 ≤ f k ∧ f k ≤ 1) {i : Nat} : ∀ n : Nat, i < n → f i ≤ qsm f n
  | 0, h => absurd h (Nat.not_lt_zero i)
  | n + 1, h => by
    have h1 := (qsm_01 h01 n).1
    have h2 := h01 n
    show f i ≤ qsm f n + f n
    by_cases c : i = n
    · rw [c]
      omega
    · have := qsm_ge h01 n (show i < n by omega)
      omega
theorem qcn_1 {t i : Int} (hi : 0 ≤ i ∧ i < 64) (h : qbit t i = 1) : 1 ≤ qcn t 64 := by
  have h1 := qcn_sm t 64
  have h2 : qcn t ((64 : Nat) : Int) = qcn t 64 := rfl
  have h3 := qsm_ge (f := fun k => qbit t (k : Int)) (fun k => qbit_r t (k : Int)) (i := i.toNat) 64 (by omega)
  have h4 : qbit t ((i.toNat : Nat) : Int) ≤ qsm (fun k => qbit t (k : Int)) 64 := h3
  rw [show ((i.toNat : Nat) : Int) = i by omega] at h4
  omega
theorem qsm_z {f : Nat → Int} {n : Nat} (h : ∀ k, n ≤ k → f k = 0) : ∀ m : Nat, qsm f (n + m) = qsm f n
  | 0 => rfl
  | m + 1 => by
    have h1 := qsm_z h m
    have h2 := h (n + m) (by omega)
    show qsm f (n + m) + f (n + m) = qsm f n
    omega
theorem qcn_32 {t : Int} (h : ∀ i : Int, 32 ≤ i → i < 64 → qbit t i = 0) : qcn t 64 ≤ 32 := by
  have h1 := qcn_sm t 64
  have h2 : qcn t ((64 : Nat) : Int) = qcn t 64 := rfl
  have h3 := qsm_z (f := fun k => if k < 64 then qbit t (k : Int) else 0) (n := 32) (fun k hk => by
    show (if k < 64 then qbit t (k : Int) else 0) = 0
    split
    · exact h k (by omega) (by omega)
    · rfl) 32
  have h4 : qsm (fun k => if k < 64 then qbit t (k : Int) else 0) 64 = qsm (fun k => qbit t (k : Int)) 64 := qsm_eq 64 (fun k hk => if_pos hk)
  have h5 := (qsm_01 (f := fun k => if k < 64 then qbit t (k : Int) else 0) (fun k => by
    have := qbit_r t (k : Int)
    show 0 ≤ (if k < 64 then qbit t (k : Int) else 0) ∧ (if k < 64 then qbit t (k : Int) else 0) ≤ 1
    split <;> omega) 32).2
  rw [show 32 + 32 = 64 from rfl, h4] at h3
  omega
theorem qst_bit {x n i : Int} (h : qst x n) (hn : 0 ≤ n ∧ n ≤ 63) (hi : n ≤ i) : qbit x i = 0 := by
  have h1 := h.2
  have h2 : qlu x < 2 ^ n.toNat := by
    rcases Nat.div_eq_zero_iff.mp h1 with z | z
    · exact absurd z (Nat.pos_iff_ne_zero.mp (Nat.two_pow_pos _))
    · exact z
  rw [qbit_if, if_neg]
  rw [Nat.testBit_lt_two_pow (Nat.lt_of_lt_of_le h2 (Nat.pow_le_pow_right (by decide) (show n.toNat ≤ i.toNat by omega)))]
  decide
theorem qcn_b (t : Int) : 0 ≤ qcn t 64 ∧ qcn t 64 ≤ 64 := by
  have h1 := qcn_sm t 64
  have h2 : qcn t ((64 : Nat) : Int) = qcn t 64 := rfl
  have h3 := qsm_01 (f := fun k => qbit t (k : Int)) (fun k => qbit_r t (k : Int)) 64
  omega
theorem qcn_z : qcn 0 64 = 0 := by decide
theorem qFINc_p {σ σ1 α α1 : Nat → Nat → Int} {f0 f1 : (Nat → Int) → Int} {hr LV v w : Int} (er : ∀ x, x ∈ [18, 20, 22, 24, 28, 29, 30, 31, 33, 35, 36, 37, 40, 41] → α1 x = α x) (e11 : σ1 58 11 = hr) (e17 : σ1 17 6 = σ 17 6) (e26 : σ1 27 6 = σ 27 6) (e27 : σ1 27 7 = σ 27 7) (e34 : σ1 34 7 = σ 34 7) (hv : v = w) : qtell (qHc σ1 α1) (qBc σ1 α1) (σ1 34 7 : Int).toNat (qWc σ1 α1 f0 f1) (σ1 17 6) 30 (qland (qHc σ1 α1) (qBc σ1 α1) (σ1 34 7 : Int).toNat ([], LV, 0, []) v) = qFINc σ α f0 f1 hr LV w := by
  have h1 : qHc σ1 α1 = qHc σ1 α := by
    unfold qHc
    rw [er 22 (by decide), er 35 (by decide), er 36 (by decide), er 37 (by decide), er 40 (by decide), er 41 (by decide)]
  have h2 : qBc σ1 α1 = qBc σ1 α := by
    unfold qBc
    rw [er 36 (by decide), er 41 (by decide)]
  have h3 : qNVc σ1 α1 = qNVc σ1 α := by
    unfold qNVc
    rw [er 18 (by decide), er 20 (by decide), er 22 (by decide), er 24 (by decide), er 28 (by decide), er 29 (by decide), er 30 (by decide), er 31 (by decide), er 33 (by decide), er 35 (by decide), er 36 (by decide), er 37 (by decide), er 40 (by decide), er 41 (by decide)]
  have h4 : qWc σ1 α1 f0 f1 = qWc σ1 α f0 f1 := by
    unfold qWc
    rw [h3]
  rw [h1, h2, h4]
  exact qFINc_o e11 e17 e26 e27 e34 hv
theorem qWr_e {σ α σ' α' : Nat → Nat → Int} (e : qNVr σ' α' = qNVr σ α) : qWr σ' α' = qWr σ α := by
  unfold qWr
  rw [e]
theorem qrw_s {f g f' : Nat → Int} {i v : Int} (hi : 0 ≤ i) (h : ∀ j : Nat, (j : Int) < i → f j = g j) (e : f' = qzu f i.toNat v) (hv : v = g i.toNat) : ∀ j : Nat, (j : Int) < i + 1 → f' j = g j := fun j hj => by
  rw [e]
  show (if j = i.toNat then v else f j) = g j
  by_cases c : j = i.toNat
  · rw [if_pos c, c]
    exact hv
  · rw [if_neg c]
    exact h j (by omega)

set_option maxHeartbeats 4000000 in
set_option maxRecDepth 20000 in
/-- OneRoofModel.bitsIn -/
theorem sf_253x {L : Nat} {xs : Nat → Int} {vb : Bool} {d : Nat} {σ α : Nat → Nat → Int} {κ : Nat → Option Nat} {ρ : Nat} {x0 : Int} (hI : qI σ α κ ρ) (r0 : (-9223372036854775808) ≤ x0 ∧ x0 ≤ 9223372036854775807) : qm_T (qe L xs vb) (d + 1) 253 [.long (ql x0)] (qw σ α κ ρ) (fun r w' => w' = qw σ α κ ρ ∧ ∃ v : Int, r = some (.int (qz v)) ∧ ((-2147483648) ≤ v ∧ v ≤ 2147483647) ∧ v = qcn x0 64) := by
  refine qr_start (d := d + 0) qv_e253 (Nat.le_of_ble_eq_true rfl) ?_
  show qr_W (qe L xs vb) (d + 0) qx_e253 _ (0, [(0, .long (ql x0))], [], _, 0, 0)
  refine qr_iconst 1 rfl rfl ?_
  refine qr_istore_n _ 2 rfl (by decide) rfl rfl ?_
  refine qr_lload_n 3 rfl rfl rfl ?_
  refine qr_lstore_n _ 4 rfl (by decide) rfl rfl ?_
  have hL313 : ∀ (n : Nat) (ls : qm_L) (u307 u309 : Int), ((qcn u309 64).toNat : Int) < (n : Int) → qm_get ls 2 = some (.int (qz u307)) → qm_get ls 3 = some (.long (ql u309)) → ((-2147483648) ≤ u307 ∧ u307 ≤ 2147483647) → ((-9223372036854775808) ≤ u309 ∧ u309 ≤ 9223372036854775807) → (0 ≤ u307 ∧ u307 + qcn u309 64 = qcn x0 64) → qr_W (qe L xs vb) (d + 0) qx_e253 (fun r w' => w' = qw σ α κ ρ ∧ ∃ v : Int, r = some (.int (qz v)) ∧ ((-2147483648) ≤ v ∧ v ≤ 2147483647) ∧ v = qcn x0 64) (4, ls, [], qw σ α κ ρ, 0, 0) := by
    intro n
    induction n with
    | zero => intro ls u307 u309 hm g306 g308 hf310 hf311 hx312; exact False.elim (by omega)
    | succ n ih314 =>
      intro ls u307 u309 hm g306 g308 hf310 hf311 hx312
      have hb1 := qcn_b u309
      have hb2 := qcn_b x0
      refine qr_lload_n 5 rfl g308 rfl ?_
      refine qr_lconst 6 rfl rfl ?_
      refine qy_vl 0 rfl ?_
      refine qr_lc_eq 22 10 rfl rfl rfl rfl hf311 (by decide) (fun h315 => ?_) (fun h315 => ?_)
      · skip
        have hz : qcn u309 64 = 0 := (by rw [show u309 = 0 by omega]; exact qcn_z)
        refine qr_iload_n 23 rfl g306 rfl ?_
        refine qr_retI rfl rfl (by decide) (by decide) ?_
        exact ⟨rfl, u307, rfl, hf310, (by have hx := hx312; omega)⟩
      · skip
        refine qy_iincE 13 rfl g306 (by decide) rfl (fun v316 hv316 hev316 => ?_)
        refine qr_lload_n 14 rfl (qm_gk g308 (by decide) (Or.inl (by decide))) rfl ?_
        refine qr_lload_n 15 rfl (qm_gk g308 (by decide) (Or.inl (by decide))) rfl ?_
        refine qr_lconst 16 rfl rfl ?_
        refine qy_vl 1 rfl ?_
        refine qr_lsub 17 rfl rfl ?_
        refine qy_canlE (fun v317 hv317 hev317 => ?_)
        refine qr_land 18 rfl rfl ?_
        refine qy_canlE (fun v318 hv318 hev318 => ?_)
        refine qr_lstore_n _ 19 rfl (by decide) rfl rfl ?_
        have hq := qcn_low hev317 hev318 (by omega) (by omega)
        have hb3 := qcn_b v318
        refine qr_goto 4 rfl rfl ?_
        exact ih314 _ v316 v318 (by omega) (qm_gk2 (qm_ge _ _ _) (by decide) (by decide) (Or.inr rfl)) (qm_ge2 _ _ _) (by omega) hv318 (by have hx := hx312; have hw := qz_val hev316 (by omega) (by omega); omega)
  exact hL313 ((((qcn x0 64).toNat : Int) + 1 : Int)).toNat _ 0 x0 (by omega) rfl rfl (by decide) r0 ⟨by decide, by omega⟩

set_option maxHeartbeats 4000000 in
set_option maxRecDepth 20000 in
/-- OneRoof.worst -/
theorem sf_140_16x {L : Nat} {xs : Nat → Int} {vb : Bool} {d : Nat} {σ α : Nat → Nat → Int} {κ : Nat → Option Nat} {ρ : Nat} {x1 : Int} {x2 : Int} {f0 f1 : (Nat → Int) → Int} (hI : qI σ α κ ρ) (r1 : (-9223372036854775808) ≤ x1 ∧ x1 ≤ 9223372036854775807) (r2 : (-2147483648) ≤ x2 ∧ x2 ≤ 2147483647) (p0 : qPW σ α κ (0 : Int).toNat f0) (p1 : qPW σ α κ (1 : Int).toNat f1) (p2 : qZp σ α) (p3 : σ 58 10 = 0) (p4 : ∀ c : Nat, c < 496 → α 61 c ≤ σ 58 12) (p5 : ∀ c : Nat, c < 496 → α 63 c ≤ σ 58 12) (p6 : 0 ≤ σ 58 12 ∧ σ 58 12 ≤ 2000000000) : qm_T (qe L xs vb) (d + 7) 140 [.ref 16, .long (ql x1), .int (qz x2)] (qw σ α κ ρ) (fun r w' => ∃ σ' α', w' = qw σ' α' κ ρ ∧ qI σ' α' κ ρ ∧ qFr [(58, 10), (58, 11), (58, 12), (73, 2), (73, 3), (73, 5), (73, 6)] [53, 57, 59, 60, 61, 62, 63, 74, 75, 85] σ α σ' α' ∧ ∃ v : Int, r = some (.int (qz v)) ∧ ((-2147483648) ≤ v ∧ v ≤ 2147483647) ∧ ((v = -1 ∧ ¬ (qst x1 (σ 17 6) ∧ 0 ≤ x2 ∧ x2 ≤ 2399)) ∨ ((qst x1 (σ 17 6) ∧ 0 ≤ x2 ∧ x2 ≤ 2399) ∧ qwF (fun u : Int => 0 ≤ u ∧ u / 100 < σ 17 6 ∧ u % 100 < σ 17 6 ∧ ¬ u / 100 = u % 100 ∧ qbit (ql_and x1 (ql_xor (σ 17 5) (-1))) (u / 100) = 1 ∧ qbit (ql_and x1 (ql_xor (σ 17 5) (-1))) (u % 100) = 1) (fun u : Int => qcn (qFINc σ α f0 f1 x2 (ql_and x1 (ql_xor (σ 17 5) (-1))) u).2.1 64) v)) ∧ (∀ c : Nat, c < 496 → α' 61 c ≤ σ' 58 12) ∧ (∀ c : Nat, c < 496 → α' 63 c ≤ σ' 58 12) ∧ (0 ≤ σ' 58 12 ∧ σ' 58 12 ≤ σ 58 12 + 1) ∧ σ' 58 10 = 0) := by
  refine qr_start (d := d + 6) qv_e140 (Nat.le_of_ble_eq_true rfl) ?_
  show qr_W (qe L xs vb) (d + 6) qx_e140 _ (0, [(0, .ref 16), (1, .long (ql x1)), (3, .int (qz x2))], [], _, 0, 0)
  have hF0 := qFr_rf [(58, 10), (58, 11), (58, 12), (73, 2), (73, 3), (73, 5), (73, 6)] [53, 57, 59, 60, 61, 62, 63, 74, 75, 85] σ α
  have hz58_10 : (-9223372036854775808) ≤ σ 58 10 ∧ σ 58 10 ≤ 9223372036854775807 := hI.1 58 10
  have hz58_12 : (-2147483648) ≤ σ 58 12 ∧ σ 58 12 ≤ 2147483647 := hI.1 58 12
  have hz17_5 : (-9223372036854775808) ≤ σ 17 5 ∧ σ 17 5 ≤ 9223372036854775807 := hI.1 17 5
  have hz17_6 : 0 ≤ σ 17 6 ∧ σ 17 6 ≤ 32 := hI.1 17 6
  have hz27_6 : (-9223372036854775808) ≤ σ 27 6 ∧ σ 27 6 ≤ 9223372036854775807 := hI.1 27 6
  have hz27_7 : 0 ≤ σ 27 7 ∧ σ 27 7 ≤ 40 := hI.1 27 7
  have hz34_7 : 0 ≤ σ 34 7 ∧ σ 34 7 ≤ 60 := hI.1 34 7
  have hz58_11 : (-2147483648) ≤ σ 58 11 ∧ σ 58 11 ≤ 2147483647 := hI.1 58 11
  refine qr_aload_n 1 rfl rfl rfl ?_
  refine qr_get 4 rfl rfl rfl (by decide) rfl ?_
  refine qr_lload_n 5 rfl rfl rfl ?_
  refine qr_callN 8 rfl rfl rfl (sf_88_17x (d := d + 5) hI r1) ?_
  have hs3 : 0 ≤ σ 17 6 ∧ σ 17 6 ≤ 32 := hI.1 17 6
  rintro _ _ ⟨rfl, v1, rfl, hv1, hp2⟩
  show qr_W (qe L xs vb) (d + 6) qx_e140 _ (8, _, [.int (qz v1)], qw σ α κ ρ, 0, 0)
  refine qr_if_eq 18 11 rfl rfl rfl (qrg hv1 (by decide) (by decide)) (fun h4 => ?_) (fun h4 => ?_)
  · skip
    refine qr_iconst 19 rfl rfl ?_
    refine qr_retI rfl rfl (by decide) (by decide) ?_
    exact ⟨_, _, rfl, hI, hF0, (-1), rfl, (by decide), (Or.inl ⟨rfl, (fun hc => by obtain ⟨c1, c2, c3⟩ := hc; first | omega | (have hz := hp2; rcases hz with hz | hz; (omega); (exact hz.2 c1)))⟩), p4, p5, (by omega), p3⟩
  · skip
    refine qr_iload_n 12 rfl rfl rfl ?_
    refine qr_callN 15 rfl rfl rfl (sf_62 (d := d + 5) hI r2) ?_
    rintro _ _ ⟨rfl, v5, rfl, hv5, hp6⟩
    show qr_W (qe L xs vb) (d + 6) qx_e140 _ (15, _, [.int (qz v5)], qw σ α κ ρ, 0, 0)
    refine qr_if_ne 20 18 rfl rfl rfl (qrg hv5 (by decide) (by decide)) (fun h7 => ?_) (fun h7 => ?_)
    · skip
      refine qr_lload_n 21 rfl rfl rfl ?_
      refine qr_aload_n 22 rfl rfl rfl ?_
      refine qr_get 25 rfl rfl rfl (by decide) rfl ?_
      refine qr_get 28 rfl rfl rfl (by decide) rfl ?_
      refine qr_ldc2 (-1) 31 rfl (by decide) rfl ?_
      refine qr_lxor 32 rfl rfl ?_
      refine qy_canlE (fun v8 hv8 hev8 => ?_)
      refine qr_land 33 rfl rfl ?_
      refine qy_canlE (fun v9 hv9 hev9 => ?_)
      refine qr_lstore _ 35 rfl (by decide) rfl rfl ?_
      have hv10 : v9 = (ql_and x1 (ql_xor (σ 17 5) (-1))) := by rw [ql_val hev9 (by omega) (ql_and_r _ _), ql_val hev8 (by omega) (ql_xor_r _ _)]
      refine qr_aload_n 36 rfl rfl rfl ?_
      refine qr_get 39 rfl rfl rfl (by decide) rfl ?_
      refine qr_iload_n 40 rfl rfl rfl ?_
      have hs11 : (-2147483648) ≤ σ 58 12 ∧ σ 58 12 ≤ 2147483647 := hI.1 58 12
      refine qr_callN 43 rfl rfl rfl (sf_89_58x (d := d + 5) hI r2 (by omega)) ?_
      rintro _ _ ⟨σ14, rfl, hI15, hG16, hw12, hw13, rfl⟩
      have hF17 : qFr [(58, 10), (58, 11), (58, 12), (73, 2), (73, 3), (73, 5), (73, 6)] [53, 57, 59, 60, 61, 62, 63, 74, 75, 85] σ α σ14 α := qFr_t hF0 hG16 (by decide) (by decide)
      have hs18 : (-2147483648) ≤ σ14 58 11 ∧ σ14 58 11 ≤ 2147483647 := hI15.1 58 11
      have hs19 : (-2147483648) ≤ σ14 58 12 ∧ σ14 58 12 ≤ 2147483647 := hI15.1 58 12
      show qr_W (qe L xs vb) (d + 6) qx_e140 _ (43, _, [], qw σ14 α κ ρ, 0, 0)
      have hc20 : qCaN (α 60) (α 61) (σ 58 12 + 1) (fun p q => qnF (qTb (α 24)) (α 28) (α 29) (α 31) (α 30) (α 33) (σ 27 6) (σ 27 7) p q x2) := qCaN_v p4 rfl
      have hc21 : qCaN (α 62) (α 63) (σ 58 12 + 1) (fun p q => qbs (qhF (α 35) (α 36) (α 37) (α 40) (qcv (α 41)) (qlw (α 22)) p q x2) (σ 34 7 : Int).toNat) := qCaN_v p5 rfl
      refine qr_bipush 45 rfl (by decide) rfl ?_
      refine qr_istore _ 47 rfl (by decide) rfl rfl ?_
      refine qr_bipush 49 rfl (by decide) rfl ?_
      refine qr_istore _ 51 rfl (by decide) rfl rfl ?_
      refine qr_iconst 52 rfl rfl ?_
      refine qr_istore _ 54 rfl (by decide) rfl rfl ?_
      have hL11457 : ∀ (n : Nat) (ls : qm_L) (u11434 u11436 u11438 : Int) (σ11439 α11440 : Nat → Nat → Int), 32 - u11438 < (n : Int) → qm_get ls 0 = some (.ref 16) → qm_get ls 4 = some (.long (ql v9)) → qm_get ls 6 = some (.int (qz u11434)) → qm_get ls 7 = some (.int (qz u11436)) → qm_get ls 8 = some (.int (qz u11438)) → ((-2) ≤ u11434 ∧ u11434 ≤ 3131) → (2 ≤ u11436 ∧ u11436 ≤ 127) → (0 ≤ u11438 ∧ u11438 ≤ 32) → qI σ11439 α11440 κ ρ → qFr [(58, 10), (58, 11), (58, 12), (73, 2), (73, 3), (73, 5), (73, 6)] [53, 57, 59, 60, 61, 62, 63, 74, 75, 85] σ α σ11439 α11440 → σ11439 17 5 = (σ 17 5) → σ11439 17 6 = (σ 17 6) → σ11439 27 6 = (σ 27 6) → σ11439 27 7 = (σ 27 7) → σ11439 34 7 = (σ 34 7) → σ11439 58 11 = (σ14 58 11) → σ11439 58 12 = (σ14 58 12) → qwB (fun u : Int => 0 ≤ u ∧ u / 100 < σ 17 6 ∧ u % 100 < σ 17 6 ∧ ¬ u / 100 = u % 100 ∧ qbit (ql_and x1 (ql_xor (σ 17 5) (-1))) (u / 100) = 1 ∧ qbit (ql_and x1 (ql_xor (σ 17 5) (-1))) (u % 100) = 1) (fun u : Int => qcn (qFINc σ α f0 f1 x2 (ql_and x1 (ql_xor (σ 17 5) (-1))) u).2.1 64) 33 (100 * u11438) u11434 u11436 → qCaN (α11440 60) (α11440 61) (σ 58 12 + 1) (fun p q => qnF (qTb (α 24)) (α 28) (α 29) (α 31) (α 30) (α 33) (σ 27 6) (σ 27 7) p q x2) → qCaN (α11440 62) (α11440 63) (σ 58 12 + 1) (fun p q => qbs (qhF (α 35) (α 36) (α 37) (α 40) (qcv (α 41)) (qlw (α 22)) p q x2) (σ 34 7 : Int).toNat) → σ11439 58 10 = 0 → qr_W (qe L xs vb) (d + 6) qx_e140 (fun r w' => ∃ σ' α', w' = qw σ' α' κ ρ ∧ qI σ' α' κ ρ ∧ qFr [(58, 10), (58, 11), (58, 12), (73, 2), (73, 3), (73, 5), (73, 6)] [53, 57, 59, 60, 61, 62, 63, 74, 75, 85] σ α σ' α' ∧ ∃ v : Int, r = some (.int (qz v)) ∧ ((-2147483648) ≤ v ∧ v ≤ 2147483647) ∧ ((v = -1 ∧ ¬ (qst x1 (σ 17 6) ∧ 0 ≤ x2 ∧ x2 ≤ 2399)) ∨ ((qst x1 (σ 17 6) ∧ 0 ≤ x2 ∧ x2 ≤ 2399) ∧ qwF (fun u : Int => 0 ≤ u ∧ u / 100 < σ 17 6 ∧ u % 100 < σ 17 6 ∧ ¬ u / 100 = u % 100 ∧ qbit (ql_and x1 (ql_xor (σ 17 5) (-1))) (u / 100) = 1 ∧ qbit (ql_and x1 (ql_xor (σ 17 5) (-1))) (u % 100) = 1) (fun u : Int => qcn (qFINc σ α f0 f1 x2 (ql_and x1 (ql_xor (σ 17 5) (-1))) u).2.1 64) v)) ∧ (∀ c : Nat, c < 496 → α' 61 c ≤ σ' 58 12) ∧ (∀ c : Nat, c < 496 → α' 63 c ≤ σ' 58 12) ∧ (0 ≤ σ' 58 12 ∧ σ' 58 12 ≤ σ 58 12 + 1) ∧ σ' 58 10 = 0) (54, ls, [], qw σ11439 α11440 κ ρ, 0, 0) := by
        intro n
        induction n with
        | zero => intro ls u11434 u11436 u11438 σ11439 α11440 hm g11431 g11432 g11433 g11435 g11437 hf11450 hf11451 hf11452 hI11441 hF11442 hk11443 hk11444 hk11445 hk11446 hk11447 hk11448 hk11449 hx11453 hx11454 hx11455 hx11456; exact False.elim (by omega)
        | succ n ih11458 =>
          intro ls u11434 u11436 u11438 σ11439 α11440 hm g11431 g11432 g11433 g11435 g11437 hf11450 hf11451 hf11452 hI11441 hF11442 hk11443 hk11444 hk11445 hk11446 hk11447 hk11448 hk11449 hx11453 hx11454 hx11455 hx11456
          have hs11459 : (-9223372036854775808) ≤ σ11439 58 10 ∧ σ11439 58 10 ≤ 9223372036854775807 := hI11441.1 58 10
          refine qr_iload 56 rfl g11437 rfl ?_
          refine qr_aload_n 57 rfl g11431 rfl ?_
          refine qr_get 60 rfl rfl rfl (by decide) rfl ?_
          refine qr_get 63 rfl rfl rfl (by decide) rfl ?_
          refine qy_v (σ 17 6) ((hk11444).trans rfl) ?_
          refine qr_icmp_ge 185 66 rfl rfl rfl (qrg hf11452 (by decide) (by decide)) (qrg hz17_6 (by decide) (by decide)) (fun h11460 => ?_) (fun h11460 => ?_)
          · skip
            refine qr_iload 187 rfl g11433 rfl ?_
            refine qr_retI rfl rfl (by decide) (by decide) ?_
            exact ⟨_, _, rfl, hI11441, hF11442, u11434, rfl, (qrg hf11450 (by decide) (by decide)), (Or.inr ⟨⟨(by have hz := hp2; rcases hz with hz | hz; (exact hz.2); (exact absurd hz.1 (by omega))), by omega, by omega⟩, qwB_end (b := 100 * u11438) (fun u h1 hd => by have := hd.1; have := hd.2.1; omega) hx11453⟩), (fun c hc => by have hz := hx11454.1 c hc; have hw : σ11439 58 12 = σ 58 12 + 1 := ((hk11449).trans rfl).trans hw13; omega), (fun c hc => by have hz := hx11455.1 c hc; have hw : σ11439 58 12 = σ 58 12 + 1 := ((hk11449).trans rfl).trans hw13; omega), (by have hw : σ11439 58 12 = σ 58 12 + 1 := ((hk11449).trans rfl).trans hw13; omega), ((rfl).trans hx11456)⟩
          · skip
            refine qr_iconst 67 rfl rfl ?_
            refine qr_istore _ 69 rfl (by decide) rfl rfl ?_
            have hL12193 : ∀ (n : Nat) (ls : qm_L) (u12169 u12171 u12174 : Int) (σ12175 α12176 : Nat → Nat → Int), 32 - u12174 < (n : Int) → qm_get ls 0 = some (.ref 16) → qm_get ls 4 = some (.long (ql v9)) → qm_get ls 6 = some (.int (qz u12169)) → qm_get ls 7 = some (.int (qz u12171)) → qm_get ls 8 = some (.int (qz u11438)) → qm_get ls 9 = some (.int (qz u12174)) → ((-2) ≤ u12169 ∧ u12169 ≤ 3131) → (2 ≤ u12171 ∧ u12171 ≤ 127) → (0 ≤ u12174 ∧ u12174 ≤ 32) → qI σ12175 α12176 κ ρ → qFr [(58, 10), (58, 11), (58, 12), (73, 2), (73, 3), (73, 5), (73, 6)] [53, 57, 59, 60, 61, 62, 63, 74, 75, 85] σ α σ12175 α12176 → σ12175 17 5 = (σ 17 5) → σ12175 17 6 = (σ 17 6) → σ12175 27 6 = (σ 27 6) → σ12175 27 7 = (σ 27 7) → σ12175 34 7 = (σ 34 7) → σ12175 58 11 = (σ14 58 11) → σ12175 58 12 = (σ14 58 12) → qwB (fun u : Int => 0 ≤ u ∧ u / 100 < σ 17 6 ∧ u % 100 < σ 17 6 ∧ ¬ u / 100 = u % 100 ∧ qbit (ql_and x1 (ql_xor (σ 17 5) (-1))) (u / 100) = 1 ∧ qbit (ql_and x1 (ql_xor (σ 17 5) (-1))) (u % 100) = 1) (fun u : Int => qcn (qFINc σ α f0 f1 x2 (ql_and x1 (ql_xor (σ 17 5) (-1))) u).2.1 64) 33 (100 * u11438 + u12174) u12169 u12171 → qCaN (α12176 60) (α12176 61) (σ 58 12 + 1) (fun p q => qnF (qTb (α 24)) (α 28) (α 29) (α 31) (α 30) (α 33) (σ 27 6) (σ 27 7) p q x2) → qCaN (α12176 62) (α12176 63) (σ 58 12 + 1) (fun p q => qbs (qhF (α 35) (α 36) (α 37) (α 40) (qcv (α 41)) (qlw (α 22)) p q x2) (σ 34 7 : Int).toNat) → σ12175 58 10 = 0 → qr_W (qe L xs vb) (d + 6) qx_e140 (fun r w' => ∃ σ' α', w' = qw σ' α' κ ρ ∧ qI σ' α' κ ρ ∧ qFr [(58, 10), (58, 11), (58, 12), (73, 2), (73, 3), (73, 5), (73, 6)] [53, 57, 59, 60, 61, 62, 63, 74, 75, 85] σ α σ' α' ∧ ∃ v : Int, r = some (.int (qz v)) ∧ ((-2147483648) ≤ v ∧ v ≤ 2147483647) ∧ ((v = -1 ∧ ¬ (qst x1 (σ 17 6) ∧ 0 ≤ x2 ∧ x2 ≤ 2399)) ∨ ((qst x1 (σ 17 6) ∧ 0 ≤ x2 ∧ x2 ≤ 2399) ∧ qwF (fun u : Int => 0 ≤ u ∧ u / 100 < σ 17 6 ∧ u % 100 < σ 17 6 ∧ ¬ u / 100 = u % 100 ∧ qbit (ql_and x1 (ql_xor (σ 17 5) (-1))) (u / 100) = 1 ∧ qbit (ql_and x1 (ql_xor (σ 17 5) (-1))) (u % 100) = 1) (fun u : Int => qcn (qFINc σ α f0 f1 x2 (ql_and x1 (ql_xor (σ 17 5) (-1))) u).2.1 64) v)) ∧ (∀ c : Nat, c < 496 → α' 61 c ≤ σ' 58 12) ∧ (∀ c : Nat, c < 496 → α' 63 c ≤ σ' 58 12) ∧ (0 ≤ σ' 58 12 ∧ σ' 58 12 ≤ σ 58 12 + 1) ∧ σ' 58 10 = 0) (69, ls, [], qw σ12175 α12176 κ ρ, 0, 0) := by
              intro n
              induction n with
              | zero => intro ls u12169 u12171 u12174 σ12175 α12176 hm g12166 g12167 g12168 g12170 g12172 g12173 hf12186 hf12187 hf12188 hI12177 hF12178 hk12179 hk12180 hk12181 hk12182 hk12183 hk12184 hk12185 hx12189 hx12190 hx12191 hx12192; exact False.elim (by omega)
              | succ n ih12194 =>
                intro ls u12169 u12171 u12174 σ12175 α12176 hm g12166 g12167 g12168 g12170 g12172 g12173 hf12186 hf12187 hf12188 hI12177 hF12178 hk12179 hk12180 hk12181 hk12182 hk12183 hk12184 hk12185 hx12189 hx12190 hx12191 hx12192
                have hs12195 : (-9223372036854775808) ≤ σ12175 58 10 ∧ σ12175 58 10 ≤ 9223372036854775807 := hI12177.1 58 10
                refine qr_iload 71 rfl g12173 rfl ?_
                refine qr_aload_n 72 rfl g12166 rfl ?_
                refine qr_get 75 rfl rfl rfl (by decide) rfl ?_
                refine qr_get 78 rfl rfl rfl (by decide) rfl ?_
                refine qy_v (σ 17 6) ((hk12180).trans rfl) ?_
                refine qr_icmp_ge 179 81 rfl rfl rfl (qrg hf12188 (by decide) (by decide)) (qrg hz17_6 (by decide) (by decide)) (fun h12196 => ?_) (fun h12196 => ?_)
                · skip
                  refine qr_iinc _ 182 rfl g12172 (by decide) rfl rfl ?_
                  refine qr_goto 54 rfl rfl ?_
                  exact ih11458 _ u12169 u12171 (u11438 + 1) σ12175 α12176 (by omega) (qm_gk g12166 (by decide) (Or.inl (by decide))) (qm_gk g12167 (by decide) (Or.inl (by decide))) (qm_gk g12168 (by decide) (Or.inl (by decide))) (qm_gk g12170 (by decide) (Or.inr rfl)) (qm_ge _ _ _) hf12186 hf12187 (by omega) hI12177 hF12178 ((hk12179).trans rfl) ((hk12180).trans rfl) ((hk12181).trans rfl) ((hk12182).trans rfl) ((hk12183).trans rfl) ((hk12184).trans rfl) ((hk12185).trans rfl) (qwB_row (b := 100 * u11438 + u12174) (by omega) (fun u h1 h2 hd => by have := hd.1; have := hd.2.2.1; omega) hx12189) hx12190 hx12191 ((rfl).trans hx12192)
                · skip
                  refine qr_iload 83 rfl g12172 rfl ?_
                  refine qr_iload 85 rfl g12173 rfl ?_
                  refine qr_icmp_eq 173 88 rfl rfl rfl (qrg hf11452 (by decide) (by decide)) (qrg hf12188 (by decide) (by decide)) (fun h12197 => ?_) (fun h12197 => ?_)
                  · skip
                    refine qr_iinc _ 176 rfl g12173 (by decide) rfl rfl ?_
                    refine qr_goto 69 rfl rfl ?_
                    exact ih12194 _ u12169 u12171 (u12174 + 1) σ12175 α12176 (by omega) (qm_gk g12166 (by decide) (Or.inl (by decide))) (qm_gk g12167 (by decide) (Or.inl (by decide))) (qm_gk g12168 (by decide) (Or.inl (by decide))) (qm_gk g12170 (by decide) (Or.inl (by decide))) (qm_gk g12172 (by decide) (Or.inr rfl)) (qm_ge _ _ _) hf12186 hf12187 (by omega) hI12177 hF12178 ((hk12179).trans rfl) ((hk12180).trans rfl) ((hk12181).trans rfl) ((hk12182).trans rfl) ((hk12183).trans rfl) ((hk12184).trans rfl) ((hk12185).trans rfl) (by have hz := qwB_row (b' := (100 * u11438 + u12174) + 1) (by omega) (fun u h1 h2 hd => by obtain ⟨d1, d2, d3, d4, d5, d6⟩ := hd; rw [show u = (100 * u11438 + u12174) by omega] at d4 d5 d6; rw [show (100 * u11438 + u12174) / 100 = u11438 by omega] at d4 d5; rw [show (100 * u11438 + u12174) % 100 = u12174 by omega] at d4 d6; omega) hx12189; rw [show (100 * u11438 + u12174) + 1 = 100 * u11438 + (u12174 + 1) by omega] at hz; exact hz) hx12190 hx12191 ((rfl).trans hx12192)
                  · skip
                    refine qr_lload 90 rfl g12167 rfl ?_
                    refine qr_iload 92 rfl g12172 rfl ?_
                    refine qr_callN 95 rfl rfl rfl (sf_50b (d := d + 5) hI12177 hv9 (qrg hf11452 (by decide) (by decide))) ?_
                    rintro _ _ ⟨rfl, v12198, rfl, hv12198, hp12199⟩
                    show qr_W (qe L xs vb) (d + 6) qx_e140 _ (95, _, [.int (qz v12198)], qw σ12175 α12176 κ ρ, 0, 0)
                    refine qr_if_eq 173 98 rfl rfl rfl (qrg hv12198 (by decide) (by decide)) (fun h12200 => ?_) (fun h12200 => ?_)
                    · skip
                      refine qr_iinc _ 176 rfl g12173 (by decide) rfl rfl ?_
                      refine qr_goto 69 rfl rfl ?_
                      exact ih12194 _ u12169 u12171 (u12174 + 1) σ12175 α12176 (by omega) (qm_gk g12166 (by decide) (Or.inl (by decide))) (qm_gk g12167 (by decide) (Or.inl (by decide))) (qm_gk g12168 (by decide) (Or.inl (by decide))) (qm_gk g12170 (by decide) (Or.inl (by decide))) (qm_gk g12172 (by decide) (Or.inr rfl)) (qm_ge _ _ _) hf12186 hf12187 (by omega) hI12177 hF12178 ((hk12179).trans rfl) ((hk12180).trans rfl) ((hk12181).trans rfl) ((hk12182).trans rfl) ((hk12183).trans rfl) ((hk12184).trans rfl) ((hk12185).trans rfl) (by have hz := qwB_row (b' := (100 * u11438 + u12174) + 1) (by omega) (fun u h1 h2 hd => by obtain ⟨d1, d2, d3, d4, d5, d6⟩ := hd; rw [show u = (100 * u11438 + u12174) by omega] at d4 d5 d6; rw [show (100 * u11438 + u12174) / 100 = u11438 by omega] at d4 d5; rw [show (100 * u11438 + u12174) % 100 = u12174 by omega] at d4 d6; rw [← hv10] at d5; omega) hx12189; rw [show (100 * u11438 + u12174) + 1 = 100 * u11438 + (u12174 + 1) by omega] at hz; exact hz) hx12190 hx12191 ((rfl).trans hx12192)
                    · skip
                      refine qr_lload 100 rfl g12167 rfl ?_
                      refine qr_iload 102 rfl g12173 rfl ?_
                      refine qr_callN 105 rfl rfl rfl (sf_50b (d := d + 5) hI12177 hv9 (qrg hf12188 (by decide) (by decide))) ?_
                      rintro _ _ ⟨rfl, v12201, rfl, hv12201, hp12202⟩
                      show qr_W (qe L xs vb) (d + 6) qx_e140 _ (105, _, [.int (qz v12201)], qw σ12175 α12176 κ ρ, 0, 0)
                      refine qr_if_ne 111 108 rfl rfl rfl (qrg hv12201 (by decide) (by decide)) (fun h12203 => ?_) (fun h12203 => ?_)
                      · skip
                        have hD12204 : (fun u : Int => 0 ≤ u ∧ u / 100 < σ 17 6 ∧ u % 100 < σ 17 6 ∧ ¬ u / 100 = u % 100 ∧ qbit (ql_and x1 (ql_xor (σ 17 5) (-1))) (u / 100) = 1 ∧ qbit (ql_and x1 (ql_xor (σ 17 5) (-1))) (u % 100) = 1) (100 * u11438 + u12174) := ⟨by omega, by omega, by omega, by omega, by rw [show (100 * u11438 + u12174) / 100 = u11438 by omega, ← hv10]; omega, by rw [show (100 * u11438 + u12174) % 100 = u12174 by omega, ← hv10]; omega⟩
                        refine qr_aload_n 112 rfl g12166 rfl ?_
                        refine qr_get 115 rfl rfl rfl (by decide) rfl ?_
                        refine qr_iload 117 rfl g12172 rfl ?_
                        refine qr_iload 119 rfl g12173 rfl ?_
                        refine qr_lload 121 rfl g12167 rfl ?_
                        have hs12205 : (-9223372036854775808) ≤ σ12175 27 6 ∧ σ12175 27 6 ≤ 9223372036854775807 := hI12177.1 27 6
                        have hs12206 : σ12175 27 6 = (σ 27 6) := (hk12181).trans rfl
                        have hs12207 : 0 ≤ σ12175 27 7 ∧ σ12175 27 7 ≤ 40 := hI12177.1 27 7
                        have hs12208 : σ12175 27 7 = (σ 27 7) := (hk12182).trans rfl
                        have hs12209 : 0 ≤ σ12175 34 7 ∧ σ12175 34 7 ≤ 60 := hI12177.1 34 7
                        have hs12210 : σ12175 34 7 = (σ 34 7) := (hk12183).trans rfl
                        have hs12211 : (-9223372036854775808) ≤ σ12175 58 10 ∧ σ12175 58 10 ≤ 9223372036854775807 := hI12177.1 58 10
                        have hs12212 : (-2147483648) ≤ σ12175 58 11 ∧ σ12175 58 11 ≤ 2147483647 := hI12177.1 58 11
                        have hs12213 : σ12175 58 11 = (σ14 58 11) := (hk12184).trans rfl
                        have hs12214 : (-2147483648) ≤ σ12175 58 12 ∧ σ12175 58 12 ≤ 2147483647 := hI12177.1 58 12
                        have hs12215 : σ12175 58 12 = (σ14 58 12) := (hk12185).trans rfl
                        refine qr_callN 124 rfl rfl rfl (sf_134_73x (d := d + 0) hI12177 (by omega) (by omega) hv9 (by omega) (qPW_fr hF12178 (by decide) (by decide) p0) (qPW_fr hF12178 (by decide) (by decide) p1) (by rw [show σ12175 58 12 = σ 58 12 + 1 from ((hk12185).trans rfl).trans hw13, show σ12175 58 11 = x2 from ((hk12184).trans rfl).trans hw12, hF12178.1 27 6 (by decide), hF12178.1 27 7 (by decide), hF12178.2 24 (by decide), hF12178.2 28 (by decide), hF12178.2 29 (by decide), hF12178.2 30 (by decide), hF12178.2 31 (by decide), hF12178.2 33 (by decide)]; exact hx12190) (by rw [show σ12175 58 12 = σ 58 12 + 1 from ((hk12185).trans rfl).trans hw13, show σ12175 58 11 = x2 from ((hk12184).trans rfl).trans hw12, hF12178.1 34 7 (by decide), hF12178.2 22 (by decide), hF12178.2 35 (by decide), hF12178.2 36 (by decide), hF12178.2 37 (by decide), hF12178.2 40 (by decide), hF12178.2 41 (by decide)]; exact hx12191) (qZp_fr hF12178 (by decide) (by decide) p2) ((rfl).trans hx12192)) ?_
                        rintro _ _ ⟨σ12220, α12221, rfl, hI12222, hG12223, hw12219, rfl, hx12216, hx12217, hx12218⟩
                        have hF12224 : qFr [(58, 10), (58, 11), (58, 12), (73, 2), (73, 3), (73, 5), (73, 6)] [53, 57, 59, 60, 61, 62, 63, 74, 75, 85] σ α σ12220 α12221 := qFr_t hF12178 hG12223 (by decide) (by decide)
                        have hs12225 : (-9223372036854775808) ≤ σ12220 58 10 ∧ σ12220 58 10 ≤ 9223372036854775807 := hI12222.1 58 10
                        show qr_W (qe L xs vb) (d + 6) qx_e140 _ (124, _, [], qw σ12220 α12221 κ ρ, 0, 0)
                        rw [qFINc_p (σ := σ) (α := α) (hr := x2) (w := 100 * u11438 + u12174) (fun x hx => hF12178.2 x ((by decide : ∀ x, x ∈ [18, 20, 22, 24, 28, 29, 30, 31, 33, 35, 36, 37, 40, 41] → ¬ x ∈ [53, 57, 59, 60, 61, 62, 63, 74, 75, 85]) x hx)) (((hk12184).trans rfl).trans hw12) (hF12178.1 17 6 (by decide)) (hF12178.1 27 6 (by decide)) (hF12178.1 27 7 (by decide)) (hF12178.1 34 7 (by decide)) rfl, hv10] at hx12216
                        have hc12226 := hx12217
                        rw [show σ12175 58 12 = σ 58 12 + 1 from ((hk12185).trans rfl).trans hw13, show σ12175 58 11 = x2 from ((hk12184).trans rfl).trans hw12, hF12178.1 27 6 (by decide), hF12178.1 27 7 (by decide), hF12178.2 24 (by decide), hF12178.2 28 (by decide), hF12178.2 29 (by decide), hF12178.2 30 (by decide), hF12178.2 31 (by decide), hF12178.2 33 (by decide)] at hc12226
                        have hc12227 := hx12218
                        rw [show σ12175 58 12 = σ 58 12 + 1 from ((hk12185).trans rfl).trans hw13, show σ12175 58 11 = x2 from ((hk12184).trans rfl).trans hw12, hF12178.1 34 7 (by decide), hF12178.2 22 (by decide), hF12178.2 35 (by decide), hF12178.2 36 (by decide), hF12178.2 37 (by decide), hF12178.2 40 (by decide), hF12178.2 41 (by decide)] at hc12227
                        refine qr_aload_n 125 rfl g12166 rfl ?_
                        refine qr_get 128 rfl rfl rfl (by decide) rfl ?_
                        refine qr_get 131 rfl rfl rfl (by decide) rfl ?_
                        have hs12228 : (-9223372036854775808) ≤ σ12220 73 3 ∧ σ12220 73 3 ≤ 9223372036854775807 := hI12222.1 73 3
                        refine qr_callN 134 rfl rfl rfl (sf_74c (d := d + 5) hI12222 hs12228) ?_
                        rintro _ _ ⟨rfl, v12229, rfl, hv12229, hp12230⟩
                        show qr_W (qe L xs vb) (d + 6) qx_e140 _ (134, _, [.int (qz v12229)], qw σ12220 α12221 κ ρ, 0, 0)
                        have hw12231 : qcn (qFINc σ α f0 f1 x2 (ql_and x1 (ql_xor (σ 17 5) (-1))) (100 * u11438 + u12174)).2.1 64 = v12229 := by rw [hp12230, hx12216.2.1]
                        have h312232 : v12229 ≤ 32 := by rw [hp12230, hx12216.2.1]; exact qcn_32 (fun i h1 h2 => by have hz := hp2; rcases hz with hz | hz; (have h3 := qst_bit hz.2 (by omega) (i := i) (by omega); have h4 := qband_c x1 (ql_xor (σ 17 5) (-1)) i; by_cases c : qbit (qFINc σ α f0 f1 x2 (ql_and x1 (ql_xor (σ 17 5) (-1))) (100 * u11438 + u12174)).2.1 i = 1; (have h5 := qtell_sub 30 _ c; have h6 := qband_c (ql_and x1 (ql_xor (σ 17 5) (-1))) (ql_xor (ql_shl 1 ((100 * u11438 + u12174) % 100)) (-1)) i; have h7 : qbit (ql_and (ql_and x1 (ql_xor (σ 17 5) (-1))) (ql_xor (ql_shl 1 ((100 * u11438 + u12174) % 100)) (-1))) i = 1 := h5; omega); (have h8 := qbit_r (qFINc σ α f0 f1 x2 (ql_and x1 (ql_xor (σ 17 5) (-1))) (100 * u11438 + u12174)).2.1 i; omega)); (omega))
                        refine qr_iload 136 rfl g12170 rfl ?_
                        refine qr_icmp_lt 142 139 rfl rfl rfl (qrg hv12229 (by decide) (by decide)) (qrg hf12187 (by decide) (by decide)) (fun h12233 => ?_) (fun h12233 => ?_)
                        · skip
                          refine qr_aload_n 143 rfl g12166 rfl ?_
                          refine qr_get 146 rfl rfl rfl (by decide) rfl ?_
                          refine qr_get 149 rfl rfl rfl (by decide) rfl ?_
                          refine qr_callN 152 rfl rfl rfl (sf_74c (d := d + 5) hI12222 hs12228) ?_
                          rintro _ _ ⟨rfl, v12234, rfl, hv12234, hp12235⟩
                          show qr_W (qe L xs vb) (d + 6) qx_e140 _ (152, _, [.int (qz v12234)], qw σ12220 α12221 κ ρ, 0, 0)
                          have hw12236 : qcn (qFINc σ α f0 f1 x2 (ql_and x1 (ql_xor (σ 17 5) (-1))) (100 * u11438 + u12174)).2.1 64 = v12234 := by rw [hp12235, hx12216.2.1]
                          refine qr_istore _ 154 rfl (by decide) rfl rfl ?_
                          refine qr_bipush 156 rfl (by decide) rfl ?_
                          refine qr_iload 158 rfl (qm_gk g12172 (by decide) (Or.inl (by decide))) rfl ?_
                          refine qr_imul 159 rfl rfl ?_
                          refine qr_iload 161 rfl (qm_gk g12173 (by decide) (Or.inl (by decide))) rfl ?_
                          refine qr_iadd 162 rfl rfl ?_
                          refine qr_istore _ 164 rfl (by decide) rfl rfl ?_
                          refine qr_iload 166 rfl (qm_gk (qm_ge _ _ _) (by decide) (Or.inl (by decide))) rfl ?_
                          refine qr_iconst 167 rfl rfl ?_
                          refine qr_icmp_gt 173 170 rfl rfl rfl (qrg hv12234 (by decide) (by decide)) (by decide) (fun h12237 => ?_) (fun h12237 => ?_)
                          · skip
                            refine qr_iinc _ 176 rfl (qm_gk (qm_gk g12173 (by decide) (Or.inl (by decide))) (by decide) (Or.inl (by decide))) (by decide) rfl rfl ?_
                            refine qr_goto 69 rfl rfl ?_
                            exact ih12194 _ ((100 * u11438) + u12174) v12234 (u12174 + 1) σ12220 α12221 (by omega) (qm_gk (qm_gk (qm_gk g12166 (by decide) (Or.inl (by decide))) (by decide) (Or.inl (by decide))) (by decide) (Or.inl (by decide))) (qm_gk (qm_gk (qm_gk g12167 (by decide) (Or.inl (by decide))) (by decide) (Or.inl (by decide))) (by decide) (Or.inl (by decide))) (qm_gk (qm_ge _ _ _) (by decide) (Or.inl (by decide))) (qm_gk (qm_gk (qm_ge _ _ _) (by decide) (Or.inl (by decide))) (by decide) (Or.inl (by decide))) (qm_gk (qm_gk (qm_gk g12172 (by decide) (Or.inl (by decide))) (by decide) (Or.inl (by decide))) (by decide) (Or.inr rfl)) (qm_ge _ _ _) (by omega) (by omega) (by omega) hI12222 hF12224 ((hG12223.1 17 5 (by decide)).trans ((hk12179).trans rfl)) ((hG12223.1 17 6 (by decide)).trans ((hk12180).trans rfl)) ((hG12223.1 27 6 (by decide)).trans ((hk12181).trans rfl)) ((hG12223.1 27 7 (by decide)).trans ((hk12182).trans rfl)) ((hG12223.1 34 7 (by decide)).trans ((hk12183).trans rfl)) ((hG12223.1 58 11 (by decide)).trans ((hk12184).trans rfl)) ((hG12223.1 58 12 (by decide)).trans ((hk12185).trans rfl)) (by have hz := qwB_new (b := (100 * u11438 + u12174)) hD12204 (by rw [hw12231]; omega) hx12189; rw [hw12236] at hz; rw [show (100 * u11438 + u12174) + 1 = 100 * u11438 + (u12174 + 1) by omega] at hz; exact hz) hc12226 hc12227 ((rfl).trans hw12219)
                          · skip
                            refine qr_iload 172 rfl (qm_ge _ _ _) rfl ?_
                            refine qr_retI rfl rfl (by decide) (by decide) ?_
                            exact ⟨_, _, rfl, hI12222, hF12224, ((100 * u11438) + u12174), rfl, (by omega), (Or.inr ⟨⟨(by have hz := hp2; rcases hz with hz | hz; (exact hz.2); (exact absurd hz.1 (by omega))), by omega, by omega⟩, qwB_stop (fun u hu => by obtain ⟨i, hi, hb⟩ := qtell_left (H := qHc (qw_s σ 58 11 x2) α) (B := qBc σ α) (n := (σ 34 7 : Int).toNat) (W := qWc (qw_s σ 58 11 x2) α f0 f1) (show σ 17 6 ≤ 32 by omega) 30 (qland (qHc (qw_s σ 58 11 x2) α) (qBc σ α) (σ 34 7 : Int).toNat ([], (ql_and x1 (ql_xor (σ 17 5) (-1))), 0, []) u) ⟨u / 100, by have := hu.1; have := hu.2.1; omega, qland_left (by have := hu.1; have := hu.2.1; omega) (by have := hu.2.2.1; omega) hu.2.2.2.1 hu.2.2.2.2.1⟩; exact qcn_1 hi hb) hD12204 (by rw [hw12231]; omega) (by rw [hw12236]; omega) hx12189⟩), (fun c hc => by have hz := hc12226.1 c hc; have hw : σ12220 58 12 = σ 58 12 + 1 := ((hG12223.1 58 12 (by decide)).trans ((hk12185).trans rfl)).trans hw13; omega), (fun c hc => by have hz := hc12227.1 c hc; have hw : σ12220 58 12 = σ 58 12 + 1 := ((hG12223.1 58 12 (by decide)).trans ((hk12185).trans rfl)).trans hw13; omega), (by have hw : σ12220 58 12 = σ 58 12 + 1 := ((hG12223.1 58 12 (by decide)).trans ((hk12185).trans rfl)).trans hw13; omega), ((rfl).trans hw12219)⟩
                        · skip
                          refine qr_goto 173 rfl rfl ?_
                          refine qr_iinc _ 176 rfl g12173 (by decide) rfl rfl ?_
                          refine qr_goto 69 rfl rfl ?_
                          exact ih12194 _ u12169 u12171 (u12174 + 1) σ12220 α12221 (by omega) (qm_gk g12166 (by decide) (Or.inl (by decide))) (qm_gk g12167 (by decide) (Or.inl (by decide))) (qm_gk g12168 (by decide) (Or.inl (by decide))) (qm_gk g12170 (by decide) (Or.inl (by decide))) (qm_gk g12172 (by decide) (Or.inr rfl)) (qm_ge _ _ _) hf12186 hf12187 (by omega) hI12222 hF12224 ((hG12223.1 17 5 (by decide)).trans ((hk12179).trans rfl)) ((hG12223.1 17 6 (by decide)).trans ((hk12180).trans rfl)) ((hG12223.1 27 6 (by decide)).trans ((hk12181).trans rfl)) ((hG12223.1 27 7 (by decide)).trans ((hk12182).trans rfl)) ((hG12223.1 34 7 (by decide)).trans ((hk12183).trans rfl)) ((hG12223.1 58 11 (by decide)).trans ((hk12184).trans rfl)) ((hG12223.1 58 12 (by decide)).trans ((hk12185).trans rfl)) (by have hz := qwB_no (b := (100 * u11438 + u12174)) (by rw [hw12231]; omega) (by have h33 := h312232; omega) hx12189; rw [show (100 * u11438 + u12174) + 1 = 100 * u11438 + (u12174 + 1) by omega] at hz; exact hz) hc12226 hc12227 ((rfl).trans hw12219)
                      · skip
                        refine qr_goto 173 rfl rfl ?_
                        refine qr_iinc _ 176 rfl g12173 (by decide) rfl rfl ?_
                        refine qr_goto 69 rfl rfl ?_
                        exact ih12194 _ u12169 u12171 (u12174 + 1) σ12175 α12176 (by omega) (qm_gk g12166 (by decide) (Or.inl (by decide))) (qm_gk g12167 (by decide) (Or.inl (by decide))) (qm_gk g12168 (by decide) (Or.inl (by decide))) (qm_gk g12170 (by decide) (Or.inl (by decide))) (qm_gk g12172 (by decide) (Or.inr rfl)) (qm_ge _ _ _) hf12186 hf12187 (by omega) hI12177 hF12178 ((hk12179).trans rfl) ((hk12180).trans rfl) ((hk12181).trans rfl) ((hk12182).trans rfl) ((hk12183).trans rfl) ((hk12184).trans rfl) ((hk12185).trans rfl) (by have hz := qwB_row (b' := (100 * u11438 + u12174) + 1) (by omega) (fun u h1 h2 hd => by obtain ⟨d1, d2, d3, d4, d5, d6⟩ := hd; rw [show u = (100 * u11438 + u12174) by omega] at d4 d5 d6; rw [show (100 * u11438 + u12174) / 100 = u11438 by omega] at d4 d5; rw [show (100 * u11438 + u12174) % 100 = u12174 by omega] at d4 d6; rw [← hv10] at d6; omega) hx12189; rw [show (100 * u11438 + u12174) + 1 = 100 * u11438 + (u12174 + 1) by omega] at hz; exact hz) hx12190 hx12191 ((rfl).trans hx12192)
            exact hL12193 ((32 - 0 + 1 : Int)).toNat _ u11434 u11436 0 σ11439 α11440 (by omega) (qm_gk g11431 (by decide) (Or.inl (by decide))) (qm_gk g11432 (by decide) (Or.inl (by decide))) (qm_gk g11433 (by decide) (Or.inl (by decide))) (qm_gk g11435 (by decide) (Or.inl (by decide))) (qm_gk g11437 (by decide) (Or.inr rfl)) (qm_ge _ _ _) hf11450 hf11451 (by decide) hI11441 hF11442 ((hk11443).trans rfl) ((hk11444).trans rfl) ((hk11445).trans rfl) ((hk11446).trans rfl) ((hk11447).trans rfl) ((hk11448).trans rfl) ((hk11449).trans rfl) (by rw [Int.add_zero]; exact hx11453) hx11454 hx11455 ((rfl).trans hx11456)
      exact hL11457 ((32 - 0 + 1 : Int)).toNat _ (-2) 33 0 σ14 α (by omega) rfl rfl rfl rfl rfl (by decide) (by decide) (by decide) hI15 hF17 ((hG16.1 17 5 (by decide)).trans rfl) ((hG16.1 17 6 (by decide)).trans rfl) ((hG16.1 27 6 (by decide)).trans rfl) ((hG16.1 27 7 (by decide)).trans rfl) ((hG16.1 34 7 (by decide)).trans rfl) (rfl) (rfl) (Or.inl ⟨rfl, rfl, fun u hu hd => by have := hd.1; omega⟩) hc20 hc21 (((hG16.1 58 10 (by decide)).trans rfl).trans p3)
    · skip
      refine qr_iconst 19 rfl rfl ?_
      refine qr_retI rfl rfl (by decide) (by decide) ?_
      exact ⟨_, _, rfl, hI, hF0, (-1), rfl, (by decide), (Or.inl ⟨rfl, (fun hc => by obtain ⟨c1, c2, c3⟩ := hc; first | omega | (have hz := hp2; rcases hz with hz | hz; (omega); (exact hz.2 c1)))⟩), p4, p5, (by omega), p3⟩

set_option maxHeartbeats 4000000 in
set_option maxRecDepth 20000 in
/-- OneRoofModel.worst -/
theorem sf_252_86x {L : Nat} {xs : Nat → Int} {vb : Bool} {d : Nat} {σ α : Nat → Nat → Int} {κ : Nat → Option Nat} {ρ : Nat} {x1 : Int} {x2 : Int} {g0 g1 : (Nat → Int) → Int} (hI : qI σ α κ ρ) (r1 : (-9223372036854775808) ≤ x1 ∧ x1 ≤ 9223372036854775807) (r2 : (-2147483648) ≤ x2 ∧ x2 ≤ 2147483647) (p0 : qPG σ α 0 g0) (p1 : qPG σ α 1 g1) (p2 : qZf σ α) (p3 : qZk σ α) (p4 : 1 ≤ 1) (p5 : σ 86 41 = 0) (p6 : σ 86 29 = 0) : qm_T (qe L xs vb) (d + 50) 252 [.ref 86, .long (ql x1), .int (qz x2)] (qw σ α κ ρ) (fun r w' => ∃ σ' α', w' = qw σ' α' κ ρ ∧ qI σ' α' κ ρ ∧ qFr [(86, 10), (86, 15), (86, 23), (86, 29), (86, 30), (86, 35), (86, 36), (86, 37), (86, 38), (86, 39), (86, 50), (86, 51)] [96, 109, 115, 116, 117, 118] σ α σ' α' ∧ ∃ v : Int, r = some (.int (qz v)) ∧ ((-2147483648) ≤ v ∧ v ≤ 2147483647) ∧ ((v = -1 ∧ ¬ (qst x1 (σ 86 6) ∧ 0 ≤ x2 ∧ x2 ≤ 2399)) ∨ ((qst x1 (σ 86 6) ∧ 0 ≤ x2 ∧ x2 ≤ 2399) ∧ qwF (fun u : Int => 0 ≤ u ∧ u / 100 < σ 86 6 ∧ u % 100 < σ 86 6 ∧ ¬ u / 100 = u % 100 ∧ qbit (ql_and x1 (ql_xor (σ 86 10) (-1))) (u / 100) = 1 ∧ qbit (ql_and x1 (ql_xor (σ 86 10) (-1))) (u % 100) = 1) (fun u : Int => qcn (qFINm σ α g0 g1 x2 (ql_and x1 (ql_xor (σ 86 10) (-1))) u).2.1 64) v)) ∧ (∀ j : Nat, (j : Int) < 31 → α' 115 j = α 115 j) ∧ (∀ j : Nat, (j : Int) < 31 → α' 116 j = α 116 j) ∧ σ' 86 10 = σ 86 10 ∧ σ' 86 29 = 0 ∧ σ' 86 50 = σ 86 50 ∧ σ' 86 51 = σ 86 51) := by
  refine qr_start (d := d + 49) qv_e252 (Nat.le_of_ble_eq_true rfl) ?_
  show qr_W (qe L xs vb) (d + 49) qx_e252 _ (0, [(0, .ref 86), (1, .long (ql x1)), (3, .int (qz x2))], [], _, 0, 0)
  have hF0 := qFr_rf [(86, 10), (86, 15), (86, 23), (86, 29), (86, 30), (86, 35), (86, 36), (86, 37), (86, 38), (86, 39), (86, 50), (86, 51)] [96, 109, 115, 116, 117, 118] σ α
  have hz86_41 : 0 ≤ σ 86 41 ∧ σ 86 41 ≤ 1 := hI.1 86 41
  have hz86_29 : (-9223372036854775808) ≤ σ 86 29 ∧ σ 86 29 ≤ 9223372036854775807 := hI.1 86 29
  have hz86_6 : 0 ≤ σ 86 6 ∧ σ 86 6 ≤ 32 := hI.1 86 6
  have hz86_10 : (-9223372036854775808) ≤ σ 86 10 ∧ σ 86 10 ≤ 9223372036854775807 := hI.1 86 10
  have hz86_24 : 0 ≤ σ 86 24 ∧ σ 86 24 ≤ 60 := hI.1 86 24
  have hz86_50 : 0 ≤ σ 86 50 ∧ σ 86 50 ≤ 31 := hI.1 86 50
  have hz86_51 : (-9223372036854775808) ≤ σ 86 51 ∧ σ 86 51 ≤ 9223372036854775807 := hI.1 86 51
  refine qr_aload_n 1 rfl rfl rfl ?_
  refine qr_lload_n 2 rfl rfl rfl ?_
  refine qr_callN 5 rfl rfl rfl (sf_225_86x (d := d + 48) hI r1) ?_
  have hs3 : 0 ≤ σ 86 6 ∧ σ 86 6 ≤ 32 := hI.1 86 6
  rintro _ _ ⟨rfl, v1, rfl, hv1, hp2⟩
  show qr_W (qe L xs vb) (d + 49) qx_e252 _ (5, _, [.int (qz v1)], qw σ α κ ρ, 0, 0)
  refine qr_if_eq 15 8 rfl rfl rfl (qrg hv1 (by decide) (by decide)) (fun h4 => ?_) (fun h4 => ?_)
  · skip
    refine qr_iconst 16 rfl rfl ?_
    refine qr_retI rfl rfl (by decide) (by decide) ?_
    exact ⟨_, _, rfl, hI, hF0, (-1), rfl, (by decide), (Or.inl ⟨rfl, (fun hc => by obtain ⟨c1, c2, c3⟩ := hc; first | omega | (have hz := hp2; rcases hz with hz | hz; (omega); (exact hz.2 c1)))⟩), (fun _ _ => rfl), (fun _ _ => rfl), rfl, p6, rfl, rfl⟩
  · skip
    refine qr_iload_n 9 rfl rfl rfl ?_
    refine qr_callN 12 rfl rfl rfl (sf_192 (d := d + 47) hI r2) ?_
    rintro _ _ ⟨rfl, v5, rfl, hv5, hp6⟩
    show qr_W (qe L xs vb) (d + 49) qx_e252 _ (12, _, [.int (qz v5)], qw σ α κ ρ, 0, 0)
    refine qr_if_ne 17 15 rfl rfl rfl (qrg hv5 (by decide) (by decide)) (fun h7 => ?_) (fun h7 => ?_)
    · skip
      refine qr_lload_n 18 rfl rfl rfl ?_
      refine qr_aload_n 19 rfl rfl rfl ?_
      refine qr_get 22 rfl rfl rfl (by decide) rfl ?_
      refine qr_ldc2 (-1) 25 rfl (by decide) rfl ?_
      refine qr_lxor 26 rfl rfl ?_
      refine qy_canlE (fun v8 hv8 hev8 => ?_)
      refine qr_land 27 rfl rfl ?_
      refine qy_canlE (fun v9 hv9 hev9 => ?_)
      refine qr_lstore _ 29 rfl (by decide) rfl rfl ?_
      have hv10 : v9 = (ql_and x1 (ql_xor (σ 86 10) (-1))) := by rw [ql_val hev9 (by omega) (ql_and_r _ _), ql_val hev8 (by omega) (ql_xor_r _ _)]
      refine qr_aload_n 30 rfl rfl rfl ?_
      refine qr_get 33 rfl rfl rfl (by decide) rfl ?_
      refine qr_lstore _ 35 rfl (by decide) rfl rfl ?_
      refine qr_aload_n 36 rfl rfl rfl ?_
      refine qr_get 39 rfl rfl rfl (by decide) rfl ?_
      refine qr_lstore _ 41 rfl (by decide) rfl rfl ?_
      refine qr_aload_n 42 rfl rfl rfl ?_
      refine qr_get 45 rfl rfl rfl (by decide) rfl ?_
      refine qr_istore _ 47 rfl (by decide) rfl rfl ?_
      refine qr_iconst 48 rfl rfl ?_
      refine qr_istore _ 50 rfl (by decide) rfl rfl ?_
      have hL61660 : ∀ (n : Nat) (ls : qm_L) (u61650 : Int) (α61652 : Nat → Nat → Int), 31 - u61650 < (n : Int) → qm_get ls 0 = some (.ref 86) → qm_get ls 3 = some (.int (qz x2)) → qm_get ls 4 = some (.long (ql v9)) → qm_get ls 6 = some (.long (ql (σ 86 10))) → qm_get ls 8 = some (.long (ql (σ 86 51))) → qm_get ls 10 = some (.int (qz (σ 86 50))) → qm_get ls 11 = some (.int (qz u61650)) → (0 ≤ u61650 ∧ u61650 ≤ 31) → qI σ α61652 κ ρ → qFr [(86, 10), (86, 15), (86, 23), (86, 29), (86, 30), (86, 35), (86, 36), (86, 37), (86, 38), (86, 39), (86, 50), (86, 51)] [96, 109, 115, 116, 117, 118] σ α σ α61652 → α61652 115 = (α 115) → α61652 116 = (α 116) → (∀ j : Nat, (j : Int) < u61650 → α61652 117 j = α 115 j) → (∀ j : Nat, (j : Int) < u61650 → α61652 118 j = α 116 j) → qr_W (qe L xs vb) (d + 49) qx_e252 (fun r w' => ∃ σ' α', w' = qw σ' α' κ ρ ∧ qI σ' α' κ ρ ∧ qFr [(86, 10), (86, 15), (86, 23), (86, 29), (86, 30), (86, 35), (86, 36), (86, 37), (86, 38), (86, 39), (86, 50), (86, 51)] [96, 109, 115, 116, 117, 118] σ α σ' α' ∧ ∃ v : Int, r = some (.int (qz v)) ∧ ((-2147483648) ≤ v ∧ v ≤ 2147483647) ∧ ((v = -1 ∧ ¬ (qst x1 (σ 86 6) ∧ 0 ≤ x2 ∧ x2 ≤ 2399)) ∨ ((qst x1 (σ 86 6) ∧ 0 ≤ x2 ∧ x2 ≤ 2399) ∧ qwF (fun u : Int => 0 ≤ u ∧ u / 100 < σ 86 6 ∧ u % 100 < σ 86 6 ∧ ¬ u / 100 = u % 100 ∧ qbit (ql_and x1 (ql_xor (σ 86 10) (-1))) (u / 100) = 1 ∧ qbit (ql_and x1 (ql_xor (σ 86 10) (-1))) (u % 100) = 1) (fun u : Int => qcn (qFINm σ α g0 g1 x2 (ql_and x1 (ql_xor (σ 86 10) (-1))) u).2.1 64) v)) ∧ (∀ j : Nat, (j : Int) < 31 → α' 115 j = α 115 j) ∧ (∀ j : Nat, (j : Int) < 31 → α' 116 j = α 116 j) ∧ σ' 86 10 = σ 86 10 ∧ σ' 86 29 = 0 ∧ σ' 86 50 = σ 86 50 ∧ σ' 86 51 = σ 86 51) (50, ls, [], qw σ α61652 κ ρ, 0, 0) := by
        intro n
        induction n with
        | zero => intro ls u61650 α61652 hm g61643 g61644 g61645 g61646 g61647 g61648 g61649 hf61657 hI61653 hF61654 hk61655 hk61656 hx61658 hx61659; exact False.elim (by omega)
        | succ n ih61661 =>
          intro ls u61650 α61652 hm g61643 g61644 g61645 g61646 g61647 g61648 g61649 hf61657 hI61653 hF61654 hk61655 hk61656 hx61658 hx61659
          refine qr_iload 52 rfl g61649 rfl ?_
          refine qr_bipush 54 rfl (by decide) rfl ?_
          refine qr_icmp_ge 91 57 rfl rfl rfl (qrg hf61657 (by decide) (by decide)) (by decide) (fun h61662 => ?_) (fun h61662 => ?_)
          · skip
            have hk61663 : ∀ j : Nat, (j : Int) < 31 → α61652 117 j = α 115 j := fun j hj => hx61658 j (by omega)
            have hk61664 : ∀ j : Nat, (j : Int) < 31 → α61652 118 j = α 116 j := fun j hj => hx61659 j (by omega)
            refine qr_bipush 93 rfl (by decide) rfl ?_
            refine qr_istore _ 95 rfl (by decide) rfl rfl ?_
            refine qr_bipush 97 rfl (by decide) rfl ?_
            refine qr_istore _ 99 rfl (by decide) rfl rfl ?_
            refine qr_iconst 100 rfl rfl ?_
            refine qr_istore _ 102 rfl (by decide) rfl rfl ?_
            have hL76074 : ∀ (n : Nat) (ls : qm_L) (u76054 u76056 u76058 : Int) (σ76059 α76060 : Nat → Nat → Int), 32 - u76058 < (n : Int) → qm_get ls 0 = some (.ref 86) → qm_get ls 3 = some (.int (qz x2)) → qm_get ls 4 = some (.long (ql v9)) → qm_get ls 6 = some (.long (ql (σ 86 10))) → qm_get ls 8 = some (.long (ql (σ 86 51))) → qm_get ls 10 = some (.int (qz (σ 86 50))) → qm_get ls 11 = some (.int (qz u76054)) → qm_get ls 12 = some (.int (qz u76056)) → qm_get ls 13 = some (.int (qz u76058)) → ((-2) ≤ u76054 ∧ u76054 ≤ 3131) → ((-2147483648) ≤ u76056 ∧ u76056 ≤ 2147483647) → (0 ≤ u76058 ∧ u76058 ≤ 32) → qI σ76059 α76060 κ ρ → qFr [(86, 10), (86, 15), (86, 23), (86, 29), (86, 30), (86, 35), (86, 36), (86, 37), (86, 38), (86, 39), (86, 50), (86, 51)] [96, 109, 115, 116, 117, 118] σ α σ76059 α76060 → σ76059 86 6 = (σ 86 6) → σ76059 86 24 = (σ 86 24) → σ76059 86 41 = (σ 86 41) → α76060 117 = (α61652 117) → α76060 118 = (α61652 118) → qwB (fun u : Int => 0 ≤ u ∧ u / 100 < σ 86 6 ∧ u % 100 < σ 86 6 ∧ ¬ u / 100 = u % 100 ∧ qbit (ql_and x1 (ql_xor (σ 86 10) (-1))) (u / 100) = 1 ∧ qbit (ql_and x1 (ql_xor (σ 86 10) (-1))) (u % 100) = 1) (fun u : Int => qcn (qFINm σ α g0 g1 x2 (ql_and x1 (ql_xor (σ 86 10) (-1))) u).2.1 64) 99 (100 * u76058) u76054 u76056 → σ76059 86 10 = σ 86 10 → σ76059 86 29 = 0 → qr_W (qe L xs vb) (d + 49) qx_e252 (fun r w' => ∃ σ' α', w' = qw σ' α' κ ρ ∧ qI σ' α' κ ρ ∧ qFr [(86, 10), (86, 15), (86, 23), (86, 29), (86, 30), (86, 35), (86, 36), (86, 37), (86, 38), (86, 39), (86, 50), (86, 51)] [96, 109, 115, 116, 117, 118] σ α σ' α' ∧ ∃ v : Int, r = some (.int (qz v)) ∧ ((-2147483648) ≤ v ∧ v ≤ 2147483647) ∧ ((v = -1 ∧ ¬ (qst x1 (σ 86 6) ∧ 0 ≤ x2 ∧ x2 ≤ 2399)) ∨ ((qst x1 (σ 86 6) ∧ 0 ≤ x2 ∧ x2 ≤ 2399) ∧ qwF (fun u : Int => 0 ≤ u ∧ u / 100 < σ 86 6 ∧ u % 100 < σ 86 6 ∧ ¬ u / 100 = u % 100 ∧ qbit (ql_and x1 (ql_xor (σ 86 10) (-1))) (u / 100) = 1 ∧ qbit (ql_and x1 (ql_xor (σ 86 10) (-1))) (u % 100) = 1) (fun u : Int => qcn (qFINm σ α g0 g1 x2 (ql_and x1 (ql_xor (σ 86 10) (-1))) u).2.1 64) v)) ∧ (∀ j : Nat, (j : Int) < 31 → α' 115 j = α 115 j) ∧ (∀ j : Nat, (j : Int) < 31 → α' 116 j = α 116 j) ∧ σ' 86 10 = σ 86 10 ∧ σ' 86 29 = 0 ∧ σ' 86 50 = σ 86 50 ∧ σ' 86 51 = σ 86 51) (102, ls, [], qw σ76059 α76060 κ ρ, 0, 0) := by
              intro n
              induction n with
              | zero => intro ls u76054 u76056 u76058 σ76059 α76060 hm g76047 g76048 g76049 g76050 g76051 g76052 g76053 g76055 g76057 hf76068 hf76069 hf76070 hI76061 hF76062 hk76063 hk76064 hk76065 hk76066 hk76067 hx76071 hx76072 hx76073; exact False.elim (by omega)
              | succ n ih76075 =>
                intro ls u76054 u76056 u76058 σ76059 α76060 hm g76047 g76048 g76049 g76050 g76051 g76052 g76053 g76055 g76057 hf76068 hf76069 hf76070 hI76061 hF76062 hk76063 hk76064 hk76065 hk76066 hk76067 hx76071 hx76072 hx76073
                have hs76076 : (-9223372036854775808) ≤ σ76059 86 10 ∧ σ76059 86 10 ≤ 9223372036854775807 := hI76061.1 86 10
                have hs76077 : (-9223372036854775808) ≤ σ76059 86 29 ∧ σ76059 86 29 ≤ 9223372036854775807 := hI76061.1 86 29
                refine qr_iload 104 rfl g76057 rfl ?_
                refine qr_aload_n 105 rfl g76047 rfl ?_
                refine qr_get 108 rfl rfl rfl (by decide) rfl ?_
                refine qy_v (σ 86 6) ((hk76063).trans rfl) ?_
                refine qr_icmp_ge 223 111 rfl rfl rfl (qrg hf76070 (by decide) (by decide)) (qrg hz86_6 (by decide) (by decide)) (fun h76078 => ?_) (fun h76078 => ?_)
                · skip
                  refine qr_aload_n 224 rfl g76047 rfl ?_
                  refine qr_lload 226 rfl g76051 rfl ?_
                  refine qr_put 229 rfl (by decide) rfl (Nat.le_of_ble_eq_true rfl) (Nat.le_of_ble_eq_true rfl) (Or.inl rfl) (qr_fitL rfl _) rfl ?_
                  refine qy_wS (qw_s σ76059 86 51 (σ 86 51)) rfl (fun σ76081 e76082 => ?_)
                  have hI76083 : qI σ76081 α76060 κ ρ := by rw [e76082]; exact qI_s hI76061 86 51 rfl (show (-9223372036854775808) ≤ (σ 86 51) ∧ (σ 86 51) ≤ 9223372036854775807 by omega)
                  have hF76084 : qFr [(86, 10), (86, 15), (86, 23), (86, 29), (86, 30), (86, 35), (86, 36), (86, 37), (86, 38), (86, 39), (86, 50), (86, 51)] [96, 109, 115, 116, 117, 118] σ α σ76081 α76060 := by rw [e76082]; exact qFr_s hF76062 86 51 _ (by decide)
                  refine qr_aload_n 230 rfl g76047 rfl ?_
                  refine qr_iload 232 rfl g76052 rfl ?_
                  refine qr_put 235 rfl (by decide) rfl (Nat.le_of_ble_eq_true rfl) (Nat.le_of_ble_eq_true rfl) (Or.inl rfl) (qr_fitI rfl _) rfl ?_
                  refine qy_wS (qw_s σ76081 86 50 (σ 86 50)) rfl (fun σ76085 e76086 => ?_)
                  have hI76087 : qI σ76085 α76060 κ ρ := by rw [e76086]; exact qI_s hI76083 86 50 rfl (show 0 ≤ (σ 86 50) ∧ (σ 86 50) ≤ 31 by omega)
                  have hF76088 : qFr [(86, 10), (86, 15), (86, 23), (86, 29), (86, 30), (86, 35), (86, 36), (86, 37), (86, 38), (86, 39), (86, 50), (86, 51)] [96, 109, 115, 116, 117, 118] σ α σ76085 α76060 := by rw [e76086]; exact qFr_s hF76084 86 50 _ (by decide)
                  refine qr_iconst 236 rfl rfl ?_
                  refine qr_istore _ 238 rfl (by decide) rfl rfl ?_
                  have hL76354 : ∀ (n : Nat) (ls : qm_L) (u76344 : Int) (α76346 : Nat → Nat → Int), 31 - u76344 < (n : Int) → qm_get ls 0 = some (.ref 86) → qm_get ls 11 = some (.int (qz u76054)) → qm_get ls 13 = some (.int (qz u76344)) → (0 ≤ u76344 ∧ u76344 ≤ 31) → qI σ76085 α76346 κ ρ → qFr [(86, 10), (86, 15), (86, 23), (86, 29), (86, 30), (86, 35), (86, 36), (86, 37), (86, 38), (86, 39), (86, 50), (86, 51)] [96, 109, 115, 116, 117, 118] σ α σ76085 α76346 → α76346 117 = (α61652 117) → α76346 118 = (α61652 118) → (∀ j : Nat, (j : Int) < u76344 → α76346 115 j = α 115 j) → (∀ j : Nat, (j : Int) < u76344 → α76346 116 j = α 116 j) → qr_W (qe L xs vb) (d + 49) qx_e252 (fun r w' => ∃ σ' α', w' = qw σ' α' κ ρ ∧ qI σ' α' κ ρ ∧ qFr [(86, 10), (86, 15), (86, 23), (86, 29), (86, 30), (86, 35), (86, 36), (86, 37), (86, 38), (86, 39), (86, 50), (86, 51)] [96, 109, 115, 116, 117, 118] σ α σ' α' ∧ ∃ v : Int, r = some (.int (qz v)) ∧ ((-2147483648) ≤ v ∧ v ≤ 2147483647) ∧ ((v = -1 ∧ ¬ (qst x1 (σ 86 6) ∧ 0 ≤ x2 ∧ x2 ≤ 2399)) ∨ ((qst x1 (σ 86 6) ∧ 0 ≤ x2 ∧ x2 ≤ 2399) ∧ qwF (fun u : Int => 0 ≤ u ∧ u / 100 < σ 86 6 ∧ u % 100 < σ 86 6 ∧ ¬ u / 100 = u % 100 ∧ qbit (ql_and x1 (ql_xor (σ 86 10) (-1))) (u / 100) = 1 ∧ qbit (ql_and x1 (ql_xor (σ 86 10) (-1))) (u % 100) = 1) (fun u : Int => qcn (qFINm σ α g0 g1 x2 (ql_and x1 (ql_xor (σ 86 10) (-1))) u).2.1 64) v)) ∧ (∀ j : Nat, (j : Int) < 31 → α' 115 j = α 115 j) ∧ (∀ j : Nat, (j : Int) < 31 → α' 116 j = α 116 j) ∧ σ' 86 10 = σ 86 10 ∧ σ' 86 29 = 0 ∧ σ' 86 50 = σ 86 50 ∧ σ' 86 51 = σ 86 51) (238, ls, [], qw σ76085 α76346 κ ρ, 0, 0) := by
                    intro n
                    induction n with
                    | zero => intro ls u76344 α76346 hm g76341 g76342 g76343 hf76351 hI76347 hF76348 hk76349 hk76350 hx76352 hx76353; exact False.elim (by omega)
                    | succ n ih76355 =>
                      intro ls u76344 α76346 hm g76341 g76342 g76343 hf76351 hI76347 hF76348 hk76349 hk76350 hx76352 hx76353
                      refine qr_iload 240 rfl g76343 rfl ?_
                      refine qr_bipush 242 rfl (by decide) rfl ?_
                      refine qr_icmp_ge 279 245 rfl rfl rfl (qrg hf76351 (by decide) (by decide)) (by decide) (fun h76356 => ?_) (fun h76356 => ?_)
                      · skip
                        refine qr_iload 281 rfl g76342 rfl ?_
                        refine qr_retI rfl rfl (by decide) (by decide) ?_
                        exact ⟨_, _, rfl, hI76347, hF76348, u76054, rfl, (qrg hf76068 (by decide) (by decide)), (Or.inr ⟨⟨(by have hz := hp2; rcases hz with hz | hz; (exact hz.2); (exact absurd hz.1 (by omega))), by omega, by omega⟩, qwB_end (b := 100 * u76058) (fun u h1 hd => by have := hd.1; have := hd.2.1; omega) hx76071⟩), (fun j hj => hx76352 j (by omega)), (fun j hj => hx76353 j (by omega)), (((congrFun (congrFun e76086 86) 10).trans ((congrFun (congrFun e76082 86) 10).trans rfl)).trans hx76072), (((congrFun (congrFun e76086 86) 29).trans ((congrFun (congrFun e76082 86) 29).trans rfl)).trans hx76073), ((congrFun (congrFun e76086 86) 50).trans rfl), ((congrFun (congrFun e76086 86) 51).trans ((congrFun (congrFun e76082 86) 51).trans rfl))⟩
                      · skip
                        refine qr_aload_n 246 rfl g76341 rfl ?_
                        refine qr_get 249 rfl rfl rfl (by decide) rfl ?_
                        refine qr_iload 251 rfl g76343 rfl ?_
                        refine qr_aload_n 252 rfl g76341 rfl ?_
                        refine qr_get 255 rfl rfl rfl (by decide) rfl ?_
                        refine qr_iload 257 rfl g76343 rfl ?_
                        refine qr_iaload 258 rfl rfl (by omega) (by decide) rfl ?_
                        refine qr_topI (fun v76357 hv76357 => ?_)
                        have hs76358 : 0 ≤ v76357 ∧ v76357 ≤ 31 := by rw [hv76357]; exact hI76347.2.1 117 _ (show _ < 31 by omega)
                        have hrv76357 : v76357 = (α61652 117) (u76344 : Int).toNat := hv76357.trans (congrFun hk76349 _)
                        refine qr_iastore 259 rfl (by decide) rfl (by omega) (by decide) rfl ?_
                        refine qy_wA (qw_r α76346 115 (qzu (α76346 115) (u76344 : Int).toNat v76357)) rfl (fun α76359 e76360 => ?_)
                        have hI76361 : qI σ76085 α76359 κ ρ := by rw [e76360]; exact qI_r hI76347 115 _ rfl (show 0 ≤ v76357 ∧ v76357 ≤ 31 by omega)
                        have hF76362 : qFr [(86, 10), (86, 15), (86, 23), (86, 29), (86, 30), (86, 35), (86, 36), (86, 37), (86, 38), (86, 39), (86, 50), (86, 51)] [96, 109, 115, 116, 117, 118] σ α σ76085 α76359 := by rw [e76360]; exact qFr_r hF76348 115 _ (by decide)
                        refine qr_aload_n 260 rfl g76341 rfl ?_
                        refine qr_get 263 rfl rfl rfl (by decide) rfl ?_
                        refine qr_iload 265 rfl g76343 rfl ?_
                        refine qr_aload_n 266 rfl g76341 rfl ?_
                        refine qr_get 269 rfl rfl rfl (by decide) rfl ?_
                        refine qr_iload 271 rfl g76343 rfl ?_
                        refine qr_iaload 272 rfl rfl (by omega) (by decide) rfl ?_
                        refine qr_topI (fun v76363 hv76363 => ?_)
                        have hs76364 : 0 ≤ v76363 ∧ v76363 ≤ 31 := by rw [hv76363]; exact hI76361.2.1 118 _ (show _ < 31 by omega)
                        have hrv76363 : v76363 = (α61652 118) (u76344 : Int).toNat := hv76363.trans (congrFun ((congrFun e76360 118).trans ((qw_r_ne (by decide)).trans hk76350)) _)
                        refine qr_iastore 273 rfl (by decide) rfl (by omega) (by decide) rfl ?_
                        refine qy_wA (qw_r α76359 116 (qzu (α76359 116) (u76344 : Int).toNat v76363)) rfl (fun α76365 e76366 => ?_)
                        have hI76367 : qI σ76085 α76365 κ ρ := by rw [e76366]; exact qI_r hI76361 116 _ rfl (show 0 ≤ v76363 ∧ v76363 ≤ 31 by omega)
                        have hF76368 : qFr [(86, 10), (86, 15), (86, 23), (86, 29), (86, 30), (86, 35), (86, 36), (86, 37), (86, 38), (86, 39), (86, 50), (86, 51)] [96, 109, 115, 116, 117, 118] σ α σ76085 α76365 := by rw [e76366]; exact qFr_r hF76362 116 _ (by decide)
                        refine qr_iinc _ 276 rfl g76343 (by decide) rfl rfl ?_
                        refine qr_goto 238 rfl rfl ?_
                        exact ih76355 _ (u76344 + 1) α76365 (by omega) (qm_gk g76341 (by decide) (Or.inl (by decide))) (qm_gk g76342 (by decide) (Or.inl (by decide))) (qm_ge _ _ _) (by omega) hI76367 hF76368 ((congrFun e76366 117).trans ((qw_r_ne (by decide)).trans ((congrFun e76360 117).trans ((qw_r_ne (by decide)).trans hk76349)))) ((congrFun e76366 118).trans ((qw_r_ne (by decide)).trans ((congrFun e76360 118).trans ((qw_r_ne (by decide)).trans hk76350)))) (qrw_s (by omega) hx76352 ((congrFun e76366 115).trans ((qw_r_ne (by decide)).trans ((congrFun e76360 115).trans (qw_r_eq.trans (congrArg (fun f => qzu f (u76344 : Int).toNat v76357) rfl))))) (hrv76357.trans (hk61663 _ (by omega)))) (qrw_s (by omega) hx76353 ((congrFun e76366 116).trans (qw_r_eq.trans (congrArg (fun f => qzu f (u76344 : Int).toNat v76363) ((congrFun e76360 116).trans ((qw_r_ne (by decide)).trans rfl))))) (hrv76363.trans (hk61664 _ (by omega))))
                  exact hL76354 ((31 - 0 + 1 : Int)).toNat _ 0 α76060 (by omega) (qm_gk g76047 (by decide) (Or.inl (by decide))) (qm_gk g76053 (by decide) (Or.inl (by decide))) (qm_ge _ _ _) (by decide) hI76087 hF76088 hk76066 hk76067 (fun j hj => False.elim (by omega)) (fun j hj => False.elim (by omega))
                · skip
                  refine qr_iconst 112 rfl rfl ?_
                  refine qr_istore _ 114 rfl (by decide) rfl rfl ?_
                  have hL77027 : ∀ (n : Nat) (ls : qm_L) (u77006 u77008 u77011 : Int) (σ77012 α77013 : Nat → Nat → Int), 32 - u77011 < (n : Int) → qm_get ls 0 = some (.ref 86) → qm_get ls 3 = some (.int (qz x2)) → qm_get ls 4 = some (.long (ql v9)) → qm_get ls 6 = some (.long (ql (σ 86 10))) → qm_get ls 8 = some (.long (ql (σ 86 51))) → qm_get ls 10 = some (.int (qz (σ 86 50))) → qm_get ls 11 = some (.int (qz u77006)) → qm_get ls 12 = some (.int (qz u77008)) → qm_get ls 13 = some (.int (qz u76058)) → qm_get ls 14 = some (.int (qz u77011)) → ((-2) ≤ u77006 ∧ u77006 ≤ 3131) → ((-2147483648) ≤ u77008 ∧ u77008 ≤ 2147483647) → (0 ≤ u77011 ∧ u77011 ≤ 32) → qI σ77012 α77013 κ ρ → qFr [(86, 10), (86, 15), (86, 23), (86, 29), (86, 30), (86, 35), (86, 36), (86, 37), (86, 38), (86, 39), (86, 50), (86, 51)] [96, 109, 115, 116, 117, 118] σ α σ77012 α77013 → σ77012 86 6 = (σ 86 6) → σ77012 86 24 = (σ 86 24) → σ77012 86 41 = (σ 86 41) → α77013 117 = (α61652 117) → α77013 118 = (α61652 118) → qwB (fun u : Int => 0 ≤ u ∧ u / 100 < σ 86 6 ∧ u % 100 < σ 86 6 ∧ ¬ u / 100 = u % 100 ∧ qbit (ql_and x1 (ql_xor (σ 86 10) (-1))) (u / 100) = 1 ∧ qbit (ql_and x1 (ql_xor (σ 86 10) (-1))) (u % 100) = 1) (fun u : Int => qcn (qFINm σ α g0 g1 x2 (ql_and x1 (ql_xor (σ 86 10) (-1))) u).2.1 64) 99 (100 * u76058 + u77011) u77006 u77008 → σ77012 86 10 = σ 86 10 → σ77012 86 29 = 0 → qr_W (qe L xs vb) (d + 49) qx_e252 (fun r w' => ∃ σ' α', w' = qw σ' α' κ ρ ∧ qI σ' α' κ ρ ∧ qFr [(86, 10), (86, 15), (86, 23), (86, 29), (86, 30), (86, 35), (86, 36), (86, 37), (86, 38), (86, 39), (86, 50), (86, 51)] [96, 109, 115, 116, 117, 118] σ α σ' α' ∧ ∃ v : Int, r = some (.int (qz v)) ∧ ((-2147483648) ≤ v ∧ v ≤ 2147483647) ∧ ((v = -1 ∧ ¬ (qst x1 (σ 86 6) ∧ 0 ≤ x2 ∧ x2 ≤ 2399)) ∨ ((qst x1 (σ 86 6) ∧ 0 ≤ x2 ∧ x2 ≤ 2399) ∧ qwF (fun u : Int => 0 ≤ u ∧ u / 100 < σ 86 6 ∧ u % 100 < σ 86 6 ∧ ¬ u / 100 = u % 100 ∧ qbit (ql_and x1 (ql_xor (σ 86 10) (-1))) (u / 100) = 1 ∧ qbit (ql_and x1 (ql_xor (σ 86 10) (-1))) (u % 100) = 1) (fun u : Int => qcn (qFINm σ α g0 g1 x2 (ql_and x1 (ql_xor (σ 86 10) (-1))) u).2.1 64) v)) ∧ (∀ j : Nat, (j : Int) < 31 → α' 115 j = α 115 j) ∧ (∀ j : Nat, (j : Int) < 31 → α' 116 j = α 116 j) ∧ σ' 86 10 = σ 86 10 ∧ σ' 86 29 = 0 ∧ σ' 86 50 = σ 86 50 ∧ σ' 86 51 = σ 86 51) (114, ls, [], qw σ77012 α77013 κ ρ, 0, 0) := by
                    intro n
                    induction n with
                    | zero => intro ls u77006 u77008 u77011 σ77012 α77013 hm g76999 g77000 g77001 g77002 g77003 g77004 g77005 g77007 g77009 g77010 hf77021 hf77022 hf77023 hI77014 hF77015 hk77016 hk77017 hk77018 hk77019 hk77020 hx77024 hx77025 hx77026; exact False.elim (by omega)
                    | succ n ih77028 =>
                      intro ls u77006 u77008 u77011 σ77012 α77013 hm g76999 g77000 g77001 g77002 g77003 g77004 g77005 g77007 g77009 g77010 hf77021 hf77022 hf77023 hI77014 hF77015 hk77016 hk77017 hk77018 hk77019 hk77020 hx77024 hx77025 hx77026
                      have hs77029 : (-9223372036854775808) ≤ σ77012 86 10 ∧ σ77012 86 10 ≤ 9223372036854775807 := hI77014.1 86 10
                      have hs77030 : (-9223372036854775808) ≤ σ77012 86 29 ∧ σ77012 86 29 ≤ 9223372036854775807 := hI77014.1 86 29
                      refine qr_iload 116 rfl g77010 rfl ?_
                      refine qr_aload_n 117 rfl g76999 rfl ?_
                      refine qr_get 120 rfl rfl rfl (by decide) rfl ?_
                      refine qy_v (σ 86 6) ((hk77016).trans rfl) ?_
                      refine qr_icmp_ge 217 123 rfl rfl rfl (qrg hf77023 (by decide) (by decide)) (qrg hz86_6 (by decide) (by decide)) (fun h77031 => ?_) (fun h77031 => ?_)
                      · skip
                        refine qr_iinc _ 220 rfl g77009 (by decide) rfl rfl ?_
                        refine qr_goto 102 rfl rfl ?_
                        exact ih76075 _ u77006 u77008 (u76058 + 1) σ77012 α77013 (by omega) (qm_gk g76999 (by decide) (Or.inl (by decide))) (qm_gk g77000 (by decide) (Or.inl (by decide))) (qm_gk g77001 (by decide) (Or.inl (by decide))) (qm_gk g77002 (by decide) (Or.inl (by decide))) (qm_gk g77003 (by decide) (Or.inl (by decide))) (qm_gk g77004 (by decide) (Or.inl (by decide))) (qm_gk g77005 (by decide) (Or.inl (by decide))) (qm_gk g77007 (by decide) (Or.inr rfl)) (qm_ge _ _ _) hf77021 hf77022 (by omega) hI77014 hF77015 ((hk77016).trans rfl) ((hk77017).trans rfl) ((hk77018).trans rfl) hk77019 hk77020 (qwB_row (b := 100 * u76058 + u77011) (by omega) (fun u h1 h2 hd => by have := hd.1; have := hd.2.2.1; omega) hx77024) ((rfl).trans hx77025) ((rfl).trans hx77026)
                      · skip
                        refine qr_iload 125 rfl g77009 rfl ?_
                        refine qr_iload 127 rfl g77010 rfl ?_
                        refine qr_icmp_eq 211 130 rfl rfl rfl (qrg hf76070 (by decide) (by decide)) (qrg hf77023 (by decide) (by decide)) (fun h77032 => ?_) (fun h77032 => ?_)
                        · skip
                          refine qr_iinc _ 214 rfl g77010 (by decide) rfl rfl ?_
                          refine qr_goto 114 rfl rfl ?_
                          exact ih77028 _ u77006 u77008 (u77011 + 1) σ77012 α77013 (by omega) (qm_gk g76999 (by decide) (Or.inl (by decide))) (qm_gk g77000 (by decide) (Or.inl (by decide))) (qm_gk g77001 (by decide) (Or.inl (by decide))) (qm_gk g77002 (by decide) (Or.inl (by decide))) (qm_gk g77003 (by decide) (Or.inl (by decide))) (qm_gk g77004 (by decide) (Or.inl (by decide))) (qm_gk g77005 (by decide) (Or.inl (by decide))) (qm_gk g77007 (by decide) (Or.inl (by decide))) (qm_gk g77009 (by decide) (Or.inr rfl)) (qm_ge _ _ _) hf77021 hf77022 (by omega) hI77014 hF77015 ((hk77016).trans rfl) ((hk77017).trans rfl) ((hk77018).trans rfl) hk77019 hk77020 (by have hz := qwB_row (b' := (100 * u76058 + u77011) + 1) (by omega) (fun u h1 h2 hd => by obtain ⟨d1, d2, d3, d4, d5, d6⟩ := hd; rw [show u = (100 * u76058 + u77011) by omega] at d4 d5 d6; rw [show (100 * u76058 + u77011) / 100 = u76058 by omega] at d4 d5; rw [show (100 * u76058 + u77011) % 100 = u77011 by omega] at d4 d6; omega) hx77024; rw [show (100 * u76058 + u77011) + 1 = 100 * u76058 + (u77011 + 1) by omega] at hz; exact hz) ((rfl).trans hx77025) ((rfl).trans hx77026)
                        · skip
                          refine qr_lload 132 rfl g77001 rfl ?_
                          refine qr_iload 134 rfl g77009 rfl ?_
                          refine qr_callN 137 rfl rfl rfl (sf_226x (d := d + 48) hI77014 hv9 (by omega)) ?_
                          rintro _ _ ⟨rfl, v77033, rfl, hv77033, hp77034⟩
                          show qr_W (qe L xs vb) (d + 49) qx_e252 _ (137, _, [.int (qz v77033)], qw σ77012 α77013 κ ρ, 0, 0)
                          refine qr_if_eq 211 140 rfl rfl rfl (qrg hv77033 (by decide) (by decide)) (fun h77035 => ?_) (fun h77035 => ?_)
                          · skip
                            refine qr_iinc _ 214 rfl g77010 (by decide) rfl rfl ?_
                            refine qr_goto 114 rfl rfl ?_
                            exact ih77028 _ u77006 u77008 (u77011 + 1) σ77012 α77013 (by omega) (qm_gk g76999 (by decide) (Or.inl (by decide))) (qm_gk g77000 (by decide) (Or.inl (by decide))) (qm_gk g77001 (by decide) (Or.inl (by decide))) (qm_gk g77002 (by decide) (Or.inl (by decide))) (qm_gk g77003 (by decide) (Or.inl (by decide))) (qm_gk g77004 (by decide) (Or.inl (by decide))) (qm_gk g77005 (by decide) (Or.inl (by decide))) (qm_gk g77007 (by decide) (Or.inl (by decide))) (qm_gk g77009 (by decide) (Or.inr rfl)) (qm_ge _ _ _) hf77021 hf77022 (by omega) hI77014 hF77015 ((hk77016).trans rfl) ((hk77017).trans rfl) ((hk77018).trans rfl) hk77019 hk77020 (by have hz := qwB_row (b' := (100 * u76058 + u77011) + 1) (by omega) (fun u h1 h2 hd => by obtain ⟨d1, d2, d3, d4, d5, d6⟩ := hd; rw [show u = (100 * u76058 + u77011) by omega] at d4 d5 d6; rw [show (100 * u76058 + u77011) / 100 = u76058 by omega] at d4 d5; rw [show (100 * u76058 + u77011) % 100 = u77011 by omega] at d4 d6; rw [← hv10] at d5; omega) hx77024; rw [show (100 * u76058 + u77011) + 1 = 100 * u76058 + (u77011 + 1) by omega] at hz; exact hz) ((rfl).trans hx77025) ((rfl).trans hx77026)
                          · skip
                            refine qr_lload 142 rfl g77001 rfl ?_
                            refine qr_iload 144 rfl g77010 rfl ?_
                            refine qr_callN 147 rfl rfl rfl (sf_226x (d := d + 48) hI77014 hv9 (by omega)) ?_
                            rintro _ _ ⟨rfl, v77036, rfl, hv77036, hp77037⟩
                            show qr_W (qe L xs vb) (d + 49) qx_e252 _ (147, _, [.int (qz v77036)], qw σ77012 α77013 κ ρ, 0, 0)
                            refine qr_if_ne 153 150 rfl rfl rfl (qrg hv77036 (by decide) (by decide)) (fun h77038 => ?_) (fun h77038 => ?_)
                            · skip
                              have hD77039 : (fun u : Int => 0 ≤ u ∧ u / 100 < σ 86 6 ∧ u % 100 < σ 86 6 ∧ ¬ u / 100 = u % 100 ∧ qbit (ql_and x1 (ql_xor (σ 86 10) (-1))) (u / 100) = 1 ∧ qbit (ql_and x1 (ql_xor (σ 86 10) (-1))) (u % 100) = 1) (100 * u76058 + u77011) := ⟨by omega, by omega, by omega, by omega, by rw [show (100 * u76058 + u77011) / 100 = u76058 by omega, ← hv10]; omega, by rw [show (100 * u76058 + u77011) % 100 = u77011 by omega, ← hv10]; omega⟩
                              refine qr_aload_n 154 rfl g76999 rfl ?_
                              refine qr_bipush 156 rfl (by decide) rfl ?_
                              refine qr_iload 158 rfl g77009 rfl ?_
                              refine qr_imul 159 rfl rfl ?_
                              refine qr_iload 161 rfl g77010 rfl ?_
                              refine qr_iadd 162 rfl rfl ?_
                              refine qr_lload 164 rfl g77001 rfl ?_
                              refine qr_iload_n 165 rfl g77000 rfl ?_
                              refine qr_iconst 166 rfl rfl ?_
                              have hs77040 : (-9223372036854775808) ≤ σ77012 86 29 ∧ σ77012 86 29 ≤ 9223372036854775807 := hI77014.1 86 29
                              have hs77041 : 0 ≤ σ77012 86 41 ∧ σ77012 86 41 ≤ 1 := hI77014.1 86 41
                              have hs77042 : σ77012 86 41 = (σ 86 41) := (hk77018).trans rfl
                              have hs77043 : 0 ≤ σ77012 86 6 ∧ σ77012 86 6 ≤ 32 := hI77014.1 86 6
                              have hs77044 : σ77012 86 6 = (σ 86 6) := (hk77016).trans rfl
                              refine qr_callN 169 rfl rfl rfl (sf_246_86x0 (d := d + 0) hI77014 (by omega) hv9 r2 (by have hw := hF77015.1 86 6 (by decide); omega) (by have hw := hF77015.1 86 6 (by decide); omega) (qPG_fr hF77015 (by decide) (by decide) p0) (qPG_fr hF77015 (by decide) (by decide) p1) (qZf_fr hF77015 (by decide) (by decide) p2) (qZk_fr hF77015 (by decide) (by decide) p3) ((rfl).trans hx77026) ((hF77015.1 86 41 (by decide)).trans p5)) ?_
                              rintro _ _ ⟨σ77047, α77048, rfl, hI77049, hG77050, rfl, hx77045, hx77046⟩
                              have hF77051 : qFr [(86, 10), (86, 15), (86, 23), (86, 29), (86, 30), (86, 35), (86, 36), (86, 37), (86, 38), (86, 39), (86, 50), (86, 51)] [96, 109, 115, 116, 117, 118] σ α σ77047 α77048 := qFr_t hF77015 hG77050 (by decide) (by decide)
                              show qr_W (qe L xs vb) (d + 49) qx_e252 _ (169, _, [], qw σ77047 α77048 κ ρ, 0, 0)
                              rw [qHr_fr hF77015 (by decide), qBm_fr hF77015 (by decide), qWr_e (qNVr_fr hF77015 (by decide) (by decide)), hF77015.1 86 24 (by decide), hF77015.1 86 6 (by decide), show σ77012 86 10 = σ 86 10 from (rfl).trans hx77025, hv10, qand_id] at hx77046
                              have hs77052 : -9223372036854775808 ≤ σ77047 86 51 ∧ σ77047 86 51 ≤ 9223372036854775807 := hI77049.1 86 51
                              refine qr_aload_n 170 rfl g76999 rfl ?_
                              refine qr_lload 172 rfl g77002 rfl ?_
                              refine qr_put 175 rfl (by decide) rfl (Nat.le_of_ble_eq_true rfl) (Nat.le_of_ble_eq_true rfl) (Or.inl rfl) (qr_fitL rfl _) rfl ?_
                              refine qy_wS (qw_s σ77047 86 10 (σ 86 10)) rfl (fun σ77053 e77054 => ?_)
                              have hI77055 : qI σ77053 α77048 κ ρ := by rw [e77054]; exact qI_s hI77049 86 10 rfl (show (-9223372036854775808) ≤ (σ 86 10) ∧ (σ 86 10) ≤ 9223372036854775807 by omega)
                              have hF77056 : qFr [(86, 10), (86, 15), (86, 23), (86, 29), (86, 30), (86, 35), (86, 36), (86, 37), (86, 38), (86, 39), (86, 50), (86, 51)] [96, 109, 115, 116, 117, 118] σ α σ77053 α77048 := by rw [e77054]; exact qFr_s hF77051 86 10 _ (by decide)
                              refine qr_aload_n 176 rfl g76999 rfl ?_
                              refine qr_lconst 177 rfl rfl ?_
                              refine qy_vl 0 rfl ?_
                              refine qr_put 180 rfl (by decide) rfl (Nat.le_of_ble_eq_true rfl) (Nat.le_of_ble_eq_true rfl) (Or.inl rfl) (qr_fitL rfl _) rfl ?_
                              refine qy_wS (qw_s σ77053 86 29 0) rfl (fun σ77057 e77058 => ?_)
                              have hI77059 : qI σ77057 α77048 κ ρ := by rw [e77058]; exact qI_s hI77055 86 29 rfl (show (-9223372036854775808) ≤ 0 ∧ 0 ≤ 9223372036854775807 by omega)
                              have hF77060 : qFr [(86, 10), (86, 15), (86, 23), (86, 29), (86, 30), (86, 35), (86, 36), (86, 37), (86, 38), (86, 39), (86, 50), (86, 51)] [96, 109, 115, 116, 117, 118] σ α σ77057 α77048 := by rw [e77058]; exact qFr_s hF77056 86 29 _ (by decide)
                              refine qr_aload_n 181 rfl g76999 rfl ?_
                              refine qr_get 184 rfl rfl rfl (by decide) rfl ?_
                              refine qy_vl (σ77047 86 51) ((congrFun (congrFun e77058 86) 51).trans ((congrFun (congrFun e77054 86) 51).trans rfl)) ?_
                              refine qr_callN 187 rfl rfl rfl (sf_253x (d := d + 48) hI77059 (by omega)) ?_
                              rintro _ _ ⟨rfl, v77061, rfl, hv77061, hp77062⟩
                              show qr_W (qe L xs vb) (d + 49) qx_e252 _ (187, _, [.int (qz v77061)], qw σ77057 α77048 κ ρ, 0, 0)
                              have hw77063 : qcn (qFINm σ α g0 g1 x2 (ql_and x1 (ql_xor (σ 86 10) (-1))) (100 * u76058 + u77011)).2.1 64 = v77061 := by rw [hp77062, hx77046]; rfl
                              have h677064 : v77061 ≤ 64 := by rw [hp77062]; exact (qcn_b _).2
                              refine qr_iload 189 rfl g77007 rfl ?_
                              refine qr_icmp_ge 211 192 rfl rfl rfl hv77061 hf77022 (fun h77065 => ?_) (fun h77065 => ?_)
                              · skip
                                refine qr_iinc _ 214 rfl g77010 (by decide) rfl rfl ?_
                                refine qr_goto 114 rfl rfl ?_
                                exact ih77028 _ u77006 u77008 (u77011 + 1) σ77057 α77048 (by omega) (qm_gk g76999 (by decide) (Or.inl (by decide))) (qm_gk g77000 (by decide) (Or.inl (by decide))) (qm_gk g77001 (by decide) (Or.inl (by decide))) (qm_gk g77002 (by decide) (Or.inl (by decide))) (qm_gk g77003 (by decide) (Or.inl (by decide))) (qm_gk g77004 (by decide) (Or.inl (by decide))) (qm_gk g77005 (by decide) (Or.inl (by decide))) (qm_gk g77007 (by decide) (Or.inl (by decide))) (qm_gk g77009 (by decide) (Or.inr rfl)) (qm_ge _ _ _) hf77021 hf77022 (by omega) hI77059 hF77060 ((congrFun (congrFun e77058 86) 6).trans ((congrFun (congrFun e77054 86) 6).trans ((hG77050.1 86 6 (by decide)).trans ((hk77016).trans rfl)))) ((congrFun (congrFun e77058 86) 24).trans ((congrFun (congrFun e77054 86) 24).trans ((hG77050.1 86 24 (by decide)).trans ((hk77017).trans rfl)))) ((congrFun (congrFun e77058 86) 41).trans ((congrFun (congrFun e77054 86) 41).trans ((hG77050.1 86 41 (by decide)).trans ((hk77018).trans rfl)))) ((hG77050.2 117 (by decide)).trans hk77019) ((hG77050.2 118 (by decide)).trans hk77020) (by have hz := qwB_no (b := (100 * u76058 + u77011)) (by rw [hw77063]; omega) (by have h64 := h677064; omega) hx77024; rw [show (100 * u76058 + u77011) + 1 = 100 * u76058 + (u77011 + 1) by omega] at hz; exact hz) ((congrFun (congrFun e77058 86) 10).trans ((congrFun (congrFun e77054 86) 10).trans rfl)) ((congrFun (congrFun e77058 86) 29).trans rfl)
                              · skip
                                refine qr_bipush 194 rfl (by decide) rfl ?_
                                refine qr_iload 196 rfl g77009 rfl ?_
                                refine qr_imul 197 rfl rfl ?_
                                refine qr_iload 199 rfl g77010 rfl ?_
                                refine qr_iadd 200 rfl rfl ?_
                                refine qr_istore _ 202 rfl (by decide) rfl rfl ?_
                                refine qr_aload_n 203 rfl (qm_gk g76999 (by decide) (Or.inl (by decide))) rfl ?_
                                refine qr_get 206 rfl rfl rfl (by decide) rfl ?_
                                refine qy_vl (σ77047 86 51) ((congrFun (congrFun e77058 86) 51).trans ((congrFun (congrFun e77054 86) 51).trans rfl)) ?_
                                refine qr_callN 209 rfl rfl rfl (sf_253x (d := d + 48) hI77059 (by omega)) ?_
                                rintro _ _ ⟨rfl, v77066, rfl, hv77066, hp77067⟩
                                show qr_W (qe L xs vb) (d + 49) qx_e252 _ (209, _, [.int (qz v77066)], qw σ77057 α77048 κ ρ, 0, 0)
                                have hw77068 : qcn (qFINm σ α g0 g1 x2 (ql_and x1 (ql_xor (σ 86 10) (-1))) (100 * u76058 + u77011)).2.1 64 = v77066 := by rw [hp77067, hx77046]; rfl
                                refine qr_istore _ 211 rfl (by decide) rfl rfl ?_
                                refine qr_iinc _ 214 rfl (qm_gk (qm_gk g77010 (by decide) (Or.inl (by decide))) (by decide) (Or.inl (by decide))) (by decide) rfl rfl ?_
                                refine qr_goto 114 rfl rfl ?_
                                exact ih77028 _ ((100 * u76058) + u77011) v77066 (u77011 + 1) σ77057 α77048 (by omega) (qm_gk (qm_gk (qm_gk g76999 (by decide) (Or.inl (by decide))) (by decide) (Or.inl (by decide))) (by decide) (Or.inl (by decide))) (qm_gk (qm_gk (qm_gk g77000 (by decide) (Or.inl (by decide))) (by decide) (Or.inl (by decide))) (by decide) (Or.inl (by decide))) (qm_gk (qm_gk (qm_gk g77001 (by decide) (Or.inl (by decide))) (by decide) (Or.inl (by decide))) (by decide) (Or.inl (by decide))) (qm_gk (qm_gk (qm_gk g77002 (by decide) (Or.inl (by decide))) (by decide) (Or.inl (by decide))) (by decide) (Or.inl (by decide))) (qm_gk (qm_gk (qm_gk g77003 (by decide) (Or.inl (by decide))) (by decide) (Or.inl (by decide))) (by decide) (Or.inl (by decide))) (qm_gk (qm_gk (qm_gk g77004 (by decide) (Or.inr rfl)) (by decide) (Or.inl (by decide))) (by decide) (Or.inl (by decide))) (qm_gk (qm_gk (qm_ge _ _ _) (by decide) (Or.inr rfl)) (by decide) (Or.inl (by decide))) (qm_gk (qm_ge _ _ _) (by decide) (Or.inl (by decide))) (qm_gk (qm_gk (qm_gk g77009 (by decide) (Or.inl (by decide))) (by decide) (Or.inl (by decide))) (by decide) (Or.inr rfl)) (qm_ge _ _ _) (by omega) hv77066 (by omega) hI77059 hF77060 ((congrFun (congrFun e77058 86) 6).trans ((congrFun (congrFun e77054 86) 6).trans ((hG77050.1 86 6 (by decide)).trans ((hk77016).trans rfl)))) ((congrFun (congrFun e77058 86) 24).trans ((congrFun (congrFun e77054 86) 24).trans ((hG77050.1 86 24 (by decide)).trans ((hk77017).trans rfl)))) ((congrFun (congrFun e77058 86) 41).trans ((congrFun (congrFun e77054 86) 41).trans ((hG77050.1 86 41 (by decide)).trans ((hk77018).trans rfl)))) ((hG77050.2 117 (by decide)).trans hk77019) ((hG77050.2 118 (by decide)).trans hk77020) (by have hz := qwB_new (b := (100 * u76058 + u77011)) hD77039 (by rw [hw77063]; omega) hx77024; rw [hw77068] at hz; rw [show (100 * u76058 + u77011) + 1 = 100 * u76058 + (u77011 + 1) by omega] at hz; exact hz) ((congrFun (congrFun e77058 86) 10).trans ((congrFun (congrFun e77054 86) 10).trans rfl)) ((congrFun (congrFun e77058 86) 29).trans rfl)
                            · skip
                              refine qr_goto 211 rfl rfl ?_
                              refine qr_iinc _ 214 rfl g77010 (by decide) rfl rfl ?_
                              refine qr_goto 114 rfl rfl ?_
                              exact ih77028 _ u77006 u77008 (u77011 + 1) σ77012 α77013 (by omega) (qm_gk g76999 (by decide) (Or.inl (by decide))) (qm_gk g77000 (by decide) (Or.inl (by decide))) (qm_gk g77001 (by decide) (Or.inl (by decide))) (qm_gk g77002 (by decide) (Or.inl (by decide))) (qm_gk g77003 (by decide) (Or.inl (by decide))) (qm_gk g77004 (by decide) (Or.inl (by decide))) (qm_gk g77005 (by decide) (Or.inl (by decide))) (qm_gk g77007 (by decide) (Or.inl (by decide))) (qm_gk g77009 (by decide) (Or.inr rfl)) (qm_ge _ _ _) hf77021 hf77022 (by omega) hI77014 hF77015 ((hk77016).trans rfl) ((hk77017).trans rfl) ((hk77018).trans rfl) hk77019 hk77020 (by have hz := qwB_row (b' := (100 * u76058 + u77011) + 1) (by omega) (fun u h1 h2 hd => by obtain ⟨d1, d2, d3, d4, d5, d6⟩ := hd; rw [show u = (100 * u76058 + u77011) by omega] at d4 d5 d6; rw [show (100 * u76058 + u77011) / 100 = u76058 by omega] at d4 d5; rw [show (100 * u76058 + u77011) % 100 = u77011 by omega] at d4 d6; rw [← hv10] at d6; omega) hx77024; rw [show (100 * u76058 + u77011) + 1 = 100 * u76058 + (u77011 + 1) by omega] at hz; exact hz) ((rfl).trans hx77025) ((rfl).trans hx77026)
                  exact hL77027 ((32 - 0 + 1 : Int)).toNat _ u76054 u76056 0 σ76059 α76060 (by omega) (qm_gk g76047 (by decide) (Or.inl (by decide))) (qm_gk g76048 (by decide) (Or.inl (by decide))) (qm_gk g76049 (by decide) (Or.inl (by decide))) (qm_gk g76050 (by decide) (Or.inl (by decide))) (qm_gk g76051 (by decide) (Or.inl (by decide))) (qm_gk g76052 (by decide) (Or.inl (by decide))) (qm_gk g76053 (by decide) (Or.inl (by decide))) (qm_gk g76055 (by decide) (Or.inl (by decide))) (qm_gk g76057 (by decide) (Or.inr rfl)) (qm_ge _ _ _) hf76068 hf76069 (by decide) hI76061 hF76062 ((hk76063).trans rfl) ((hk76064).trans rfl) ((hk76065).trans rfl) hk76066 hk76067 (by rw [Int.add_zero]; exact hx76071) ((rfl).trans hx76072) ((rfl).trans hx76073)
            exact hL76074 ((32 - 0 + 1 : Int)).toNat _ (-2) 99 0 σ α61652 (by omega) (qm_gk (qm_gk (qm_gk g61643 (by decide) (Or.inl (by decide))) (by decide) (Or.inl (by decide))) (by decide) (Or.inl (by decide))) (qm_gk (qm_gk (qm_gk g61644 (by decide) (Or.inl (by decide))) (by decide) (Or.inl (by decide))) (by decide) (Or.inl (by decide))) (qm_gk (qm_gk (qm_gk g61645 (by decide) (Or.inl (by decide))) (by decide) (Or.inl (by decide))) (by decide) (Or.inl (by decide))) (qm_gk (qm_gk (qm_gk g61646 (by decide) (Or.inl (by decide))) (by decide) (Or.inl (by decide))) (by decide) (Or.inl (by decide))) (qm_gk (qm_gk (qm_gk g61647 (by decide) (Or.inl (by decide))) (by decide) (Or.inl (by decide))) (by decide) (Or.inl (by decide))) (qm_gk (qm_gk (qm_gk g61648 (by decide) (Or.inr rfl)) (by decide) (Or.inl (by decide))) (by decide) (Or.inl (by decide))) (qm_gk (qm_gk (qm_ge _ _ _) (by decide) (Or.inr rfl)) (by decide) (Or.inl (by decide))) (qm_gk (qm_ge _ _ _) (by decide) (Or.inr rfl)) (qm_ge _ _ _) (by decide) (by decide) (by decide) hI61653 hF61654 (rfl) (rfl) (rfl) rfl rfl (Or.inl ⟨rfl, rfl, fun u hu hd => by have := hd.1; omega⟩) (rfl) ((rfl).trans p6)
          · skip
            refine qr_aload_n 58 rfl g61643 rfl ?_
            refine qr_get 61 rfl rfl rfl (by decide) rfl ?_
            refine qr_iload 63 rfl g61649 rfl ?_
            refine qr_aload_n 64 rfl g61643 rfl ?_
            refine qr_get 67 rfl rfl rfl (by decide) rfl ?_
            refine qr_iload 69 rfl g61649 rfl ?_
            refine qr_iaload 70 rfl rfl (by omega) (by decide) rfl ?_
            refine qr_topI (fun v77069 hv77069 => ?_)
            have hs77070 : 0 ≤ v77069 ∧ v77069 ≤ 31 := by rw [hv77069]; exact hI61653.2.1 115 _ (show _ < 31 by omega)
            have hrv77069 : v77069 = (α 115) (u61650 : Int).toNat := hv77069.trans (congrFun hk61655 _)
            refine qr_iastore 71 rfl (by decide) rfl (by omega) (by decide) rfl ?_
            refine qy_wA (qw_r α61652 117 (qzu (α61652 117) (u61650 : Int).toNat v77069)) rfl (fun α77071 e77072 => ?_)
            have hI77073 : qI σ α77071 κ ρ := by rw [e77072]; exact qI_r hI61653 117 _ rfl (show 0 ≤ v77069 ∧ v77069 ≤ 31 by omega)
            have hF77074 : qFr [(86, 10), (86, 15), (86, 23), (86, 29), (86, 30), (86, 35), (86, 36), (86, 37), (86, 38), (86, 39), (86, 50), (86, 51)] [96, 109, 115, 116, 117, 118] σ α σ α77071 := by rw [e77072]; exact qFr_r hF61654 117 _ (by decide)
            refine qr_aload_n 72 rfl g61643 rfl ?_
            refine qr_get 75 rfl rfl rfl (by decide) rfl ?_
            refine qr_iload 77 rfl g61649 rfl ?_
            refine qr_aload_n 78 rfl g61643 rfl ?_
            refine qr_get 81 rfl rfl rfl (by decide) rfl ?_
            refine qr_iload 83 rfl g61649 rfl ?_
            refine qr_iaload 84 rfl rfl (by omega) (by decide) rfl ?_
            refine qr_topI (fun v77075 hv77075 => ?_)
            have hs77076 : 0 ≤ v77075 ∧ v77075 ≤ 31 := by rw [hv77075]; exact hI77073.2.1 116 _ (show _ < 31 by omega)
            have hrv77075 : v77075 = (α 116) (u61650 : Int).toNat := hv77075.trans (congrFun ((congrFun e77072 116).trans ((qw_r_ne (by decide)).trans hk61656)) _)
            refine qr_iastore 85 rfl (by decide) rfl (by omega) (by decide) rfl ?_
            refine qy_wA (qw_r α77071 118 (qzu (α77071 118) (u61650 : Int).toNat v77075)) rfl (fun α77077 e77078 => ?_)
            have hI77079 : qI σ α77077 κ ρ := by rw [e77078]; exact qI_r hI77073 118 _ rfl (show 0 ≤ v77075 ∧ v77075 ≤ 31 by omega)
            have hF77080 : qFr [(86, 10), (86, 15), (86, 23), (86, 29), (86, 30), (86, 35), (86, 36), (86, 37), (86, 38), (86, 39), (86, 50), (86, 51)] [96, 109, 115, 116, 117, 118] σ α σ α77077 := by rw [e77078]; exact qFr_r hF77074 118 _ (by decide)
            refine qr_iinc _ 88 rfl g61649 (by decide) rfl rfl ?_
            refine qr_goto 50 rfl rfl ?_
            exact ih61661 _ (u61650 + 1) α77077 (by omega) (qm_gk g61643 (by decide) (Or.inl (by decide))) (qm_gk g61644 (by decide) (Or.inl (by decide))) (qm_gk g61645 (by decide) (Or.inl (by decide))) (qm_gk g61646 (by decide) (Or.inl (by decide))) (qm_gk g61647 (by decide) (Or.inl (by decide))) (qm_gk g61648 (by decide) (Or.inr rfl)) (qm_ge _ _ _) (by omega) hI77079 hF77080 ((congrFun e77078 115).trans ((qw_r_ne (by decide)).trans ((congrFun e77072 115).trans ((qw_r_ne (by decide)).trans hk61655)))) ((congrFun e77078 116).trans ((qw_r_ne (by decide)).trans ((congrFun e77072 116).trans ((qw_r_ne (by decide)).trans hk61656)))) (qrw_s (by omega) hx61658 ((congrFun e77078 117).trans ((qw_r_ne (by decide)).trans ((congrFun e77072 117).trans (qw_r_eq.trans (congrArg (fun f => qzu f (u61650 : Int).toNat v77069) rfl))))) hrv77069) (qrw_s (by omega) hx61659 ((congrFun e77078 118).trans (qw_r_eq.trans (congrArg (fun f => qzu f (u61650 : Int).toNat v77075) ((congrFun e77072 118).trans ((qw_r_ne (by decide)).trans rfl))))) hrv77075)
      exact hL61660 ((31 - 0 + 1 : Int)).toNat _ 0 α (by omega) rfl rfl rfl rfl rfl rfl rfl (by decide) hI hF0 rfl rfl (fun j hj => False.elim (by omega)) (fun j hj => False.elim (by omega))
    · skip
      refine qr_iconst 16 rfl rfl ?_
      refine qr_retI rfl rfl (by decide) (by decide) ?_
      exact ⟨_, _, rfl, hI, hF0, (-1), rfl, (by decide), (Or.inl ⟨rfl, (fun hc => by obtain ⟨c1, c2, c3⟩ := hc; first | omega | (have hz := hp2; rcases hz with hz | hz; (omega); (exact hz.2 c1)))⟩), (fun _ _ => rfl), (fun _ _ => rfl), rfl, p6, rfl, rfl⟩
