section
/-! acts -/
def qac_a (a b : Int) : Int := (qz (a + b)).toInt
def qac_s (a b : Int) : Int := (qz (a - b)).toInt
def qac_m (a b : Int) : Int := (qz (a * b)).toInt
def qac_n (a : Int) : Int := (qz (-a)).toInt
def qac_x (a b : Int) : Int := (qz (qz_xor a b)).toInt
theorem qac_v {v y : Int} (h : qz v = qz y) (hv : -2147483648 ≤ v ∧ v ≤ 2147483647) : v = (qz y).toInt := by
  rw [← h]
  exact (qz_ti hv).symm
def qac_t : List Int → (Nat → Int) → Int → (Nat → Int)
  | [], f, _ => f
  | b :: l, f, r => qac_t l (qzu f r.toNat b) (r + 1)
theorem qac_t_app : ∀ (l1 l2 : List Int) (f : Nat → Int) (r : Int), qac_t (l1 ++ l2) f r = qac_t l2 (qac_t l1 f r) (r + (l1.length : Int))
  | [], l2, f, r => by
    show qac_t l2 f r = qac_t l2 f (r + ((0 : Nat) : Int))
    rw [show r + ((0 : Nat) : Int) = r by omega]
  | b :: l, l2, f, r => by
    show qac_t (l ++ l2) (qzu f r.toNat b) (r + 1) = qac_t l2 (qac_t l (qzu f r.toNat b) (r + 1)) (r + ((l.length + 1 : Nat) : Int))
    rw [qac_t_app l l2, show r + 1 + (l.length : Int) = r + ((l.length + 1 : Nat) : Int) by omega]
theorem qac_t_lo : ∀ (l : List Int) (f : Nat → Int) (r : Int) (i : Nat), (i : Int) < r → qac_t l f r i = f i
  | [], _, _, _, _ => rfl
  | b :: l, f, r, i, h => by
    show qac_t l (qzu f r.toNat b) (r + 1) i = f i
    rw [qac_t_lo l _ (r + 1) i (by omega)]
    exact if_neg (by omega)
theorem qac_t_eq : ∀ (l : List Int) (f g : Nat → Int) (r : Int) (i : Nat), 0 ≤ r → r ≤ (i : Int) → (i : Int) < r + (l.length : Int) → qac_t l f r i = qac_t l g r i
  | [], _, _, _, _, _, h1, h2 => absurd h2 (by show ¬ (_ : Int) < _ + ((0 : Nat) : Int); omega)
  | b :: l, f, g, r, i, h0, h1, h2 => by
    show qac_t l (qzu f r.toNat b) (r + 1) i = qac_t l (qzu g r.toNat b) (r + 1) i
    have h2' : (i : Int) < r + ((l.length + 1 : Nat) : Int) := h2
    by_cases c : (i : Int) = r
    · rw [qac_t_lo l _ (r + 1) i (by omega), qac_t_lo l _ (r + 1) i (by omega)]
      show (if i = r.toNat then b else f i) = if i = r.toNat then b else g i
      rw [if_pos (by omega), if_pos (by omega)]
    · exact qac_t_eq l _ _ (r + 1) i (by omega) (by omega) (by omega)
/-- what an act of a kind gives -/
def qAEn : Nat → Nat → Int → Int → Int
  | 0, 0, x, n => qac_a x n
  | 0, 1, x, n => qac_m (qac_a x n) 2
  | 0, 2, x, n => qac_x x n
  | 0, 3, x, n => qac_s (qac_m (qac_a x n) 2) (qac_x 1 n)
  | 1, 0, x, n => qac_a (qac_a x n) 3
  | 1, 1, x, n => qac_m (qac_a (qac_a x n) 3) 2
  | 1, 2, x, n => qac_x x n
  | 1, 3, x, n => qac_s (qac_m (qac_a (qac_a x n) 3) 2) (qac_x 1 n)
  | 2, 0, x, n => qac_a (qac_a (qac_a x 1) n) 3
  | 2, 1, x, n => qac_m (qac_a (qac_a (qac_a x 1) n) 3) 2
  | 2, 2, x, n => qac_m (qac_x x n) 3
  | 2, 3, x, n => qac_s (qac_m (qac_a (qac_a (qac_a x 1) n) 3) 2) (qac_m (qac_x 1 n) 3)
  | 3, 0, x, n => qac_a x n
  | 3, 1, x, n => qac_n (qac_m (qac_a x n) 2)
  | 3, 2, x, n => qac_x x n
  | 3, 3, x, n => qac_s (qac_n (qac_m (qac_a x n) 2)) (qac_x 1 n)
  | 4, 0, x, n => qac_a x n
  | 4, 1, x, n => qac_m (qac_a x n) 2
  | 4, 2, x, n => qac_x x n
  | 4, 3, x, n => qac_x (qac_s (qac_m (qac_a x n) 2) (qac_x 1 n)) 5
  | 5, 0, x, n => qac_s (qac_a x n) (qac_x 2 n)
  | 5, 1, x, n => qac_m (qac_s (qac_a x n) (qac_x 2 n)) 2
  | 5, 2, x, n => qac_x x n
  | 5, 3, x, n => qac_x (qac_s (qac_m (qac_s (qac_a x n) (qac_x 2 n)) 2) (qac_x 1 n)) 5
  | 6, 0, x, n => qac_a x n
  | 6, 1, x, n => qac_m (qac_m (qac_a x n) 2) 2
  | 6, 2, x, n => qac_a (qac_x x n) (qac_a 1 n)
  | 6, 3, x, n => qac_s (qac_m (qac_m (qac_a x n) 2) 2) (qac_a (qac_x 1 n) (qac_a 1 n))
  | _, _, _, _ => 0
def qAE (k a x n : Int) : Int := qAEn k.toNat a.toNat x n
/-- and which bodies run for it -/
def qATn : Nat → Nat → List Int
  | 0, 0 => [1]
  | 0, 1 => [10, 1]
  | 0, 2 => [11]
  | 0, 3 => [2, 10, 1, 11]
  | 1, 0 => [20, 1]
  | 1, 1 => [10, 20, 1]
  | 1, 2 => [11]
  | 1, 3 => [2, 10, 20, 1, 11]
  | 2, 0 => [31, 20, 1]
  | 2, 1 => [10, 31, 20, 1]
  | 2, 2 => [30, 11]
  | 2, 3 => [2, 10, 31, 20, 1, 30, 11]
  | 3, 0 => [1]
  | 3, 1 => [40, 10, 1]
  | 3, 2 => [11]
  | 3, 3 => [2, 40, 10, 1, 11]
  | 4, 0 => [1]
  | 4, 1 => [10, 1]
  | 4, 2 => [11]
  | 4, 3 => [50, 2, 10, 1, 11]
  | 5, 0 => [60, 1, 11]
  | 5, 1 => [10, 60, 1, 11]
  | 5, 2 => [11]
  | 5, 3 => [50, 2, 10, 60, 1, 11, 11]
  | 6, 0 => [1]
  | 6, 1 => [71, 10, 1]
  | 6, 2 => [70, 11, 1]
  | 6, 3 => [2, 71, 10, 1, 70, 11, 1]
  | _, _ => []
def qAT (k a : Int) : List Int := qATn k.toNat a.toNat
theorem qAT_b (k a : Int) : (qAT k a).length ≤ 7 := by
  unfold qAT
  generalize k.toNat = m
  generalize a.toNat = n
  unfold qATn
  split
  all_goals decide

set_option maxHeartbeats 4000000 in
set_option maxRecDepth 20000 in
/-- OneRoof$Acts.begin -/
theorem sf_153_42eb1_0_0 {L : Nat} {xs : Nat → Int} {vb : Bool} {d : Nat} {σ α : Nat → Nat → Int} {κ : Nat → Option Nat} {ρ : Nat} {x4 : Int} {x5 : Int} {x6 : Int} (hI : qI σ α κ ρ) (r4 : (-2147483648) ≤ x4 ∧ x4 ≤ 2147483647) (r5 : (-2147483648) ≤ x5 ∧ x5 ≤ 2147483647) (r6 : 0 ≤ x6 ∧ x6 ≤ 40) (p0 : 0 ≤ σ 42 1 ∧ σ 42 1 ≤ 23) : qm_T (qe L xs vb) (d + 1) 153 [.ref 42, .int (qz 1), .int (qz 0), .int (qz 0), .int (qz x4), .int (qz x5), .int (qz x6)] (qw σ α κ ρ) (fun r w' => ∃ σ' α', w' = qw σ' α' κ ρ ∧ qI σ' α' κ ρ ∧ qFr [(42, 1)] [43] σ α σ' α' ∧ σ' 42 1 = σ 42 1 + 1 ∧ ∃ v : Int, r = some (.int (qz v)) ∧ ((-2147483648) ≤ v ∧ v ≤ 2147483647) ∧ v = qac_a x4 x5 ∧ α' 43 = qac_t [1] (α 43) (σ 42 1)) := by
  refine qr_start (d := d + 0) qv_e153 (Nat.le_of_ble_eq_true rfl) ?_
  show qr_W (qe L xs vb) (d + 0) qx_e153 _ (0, [(0, .ref 42), (1, .int (qz 1)), (2, .int (qz 0)), (3, .int (qz 0)), (4, .int (qz x4)), (5, .int (qz x5)), (6, .int (qz x6))], [], _, 0, 0)
  have hF0 := qFr_rf [(42, 1)] [43] σ α
  have hz42_1 : (-2147483648) ≤ σ 42 1 ∧ σ 42 1 ≤ 2147483647 := hI.1 42 1
  refine qr_aload_n 1 rfl rfl rfl ?_
  refine qr_get 4 rfl rfl rfl (by decide) rfl ?_
  refine qr_aload_n 5 rfl rfl rfl ?_
  refine qr_get 8 rfl rfl rfl (by decide) rfl ?_
  refine qr_alen 9 rfl rfl (by first | exact Or.inl (by decide) | exact Or.inr (Or.inl rfl) | exact Or.inr (Or.inr (Or.inl rfl)) | exact Or.inr (Or.inr (Or.inr (Or.inl rfl)))) rfl ?_
  refine qy_v 24 rfl ?_
  refine qr_icmp_ge 22 12 rfl rfl rfl hz42_1 (by decide) (fun h => False.elim (by omega)) (fun h1 => ?_)
  refine qr_aload_n 13 rfl rfl rfl ?_
  refine qr_get 16 rfl rfl rfl (by decide) rfl ?_
  refine qr_aload_n 17 rfl rfl rfl ?_
  refine qr_get 20 rfl rfl rfl (by decide) rfl ?_
  refine qr_iload_n 21 rfl rfl rfl ?_
  refine qr_iastore 22 rfl (by decide) rfl (by omega) (by decide) rfl ?_
  refine qy_wA (qw_r α 43 (qzu (α 43) ((σ 42 1) : Int).toNat 1)) rfl (fun α2 e3 => ?_)
  have hI4 : qI σ α2 κ ρ := by rw [e3]; exact qI_r hI 43 _ rfl (show (-2147483648) ≤ 1 ∧ 1 ≤ 2147483647 by omega)
  have hF5 : qFr [(42, 1)] [43] σ α σ α2 := by rw [e3]; exact qFr_r hF0 43 _ (by decide)
  refine qr_aload_n 23 rfl rfl rfl ?_
  refine qr_dup 24 rfl rfl rfl ?_
  refine qr_get 27 rfl rfl rfl (by decide) rfl ?_
  refine qr_iconst 28 rfl rfl ?_
  refine qr_iadd 29 rfl rfl ?_
  refine qr_put 32 rfl (by decide) rfl (Nat.le_of_ble_eq_true rfl) (Nat.le_of_ble_eq_true rfl) (Or.inl rfl) (qr_fitI rfl _) rfl ?_
  refine qy_wS (qw_s σ 42 1 ((σ 42 1) + 1)) rfl (fun σ6 e7 => ?_)
  have hI8 : qI σ6 α2 κ ρ := by rw [e7]; exact qI_s hI4 42 1 rfl (show (-2147483648) ≤ ((σ 42 1) + 1) ∧ ((σ 42 1) + 1) ≤ 2147483647 by omega)
  have hF9 : qFr [(42, 1)] [43] σ α σ6 α2 := by rw [e7]; exact qFr_s hF5 42 1 _ (by decide)
  refine qr_getst 35 rfl rfl ?_
  refine qr_iload_n 36 rfl rfl rfl ?_
  refine qr_iaload 37 rfl rfl (by decide) (by decide) rfl ?_
  refine qy_v (-1) (by decide) ?_
  refine qr_istore _ 39 rfl (by decide) rfl rfl ?_
  refine qr_iload_n 40 rfl rfl rfl ?_
  refine qr_look (off := 108) 148 rfl (by omega) (by decide) (by decide) rfl ?_
  refine qr_iload 150 rfl rfl rfl ?_
  refine qr_iload 152 rfl rfl rfl ?_
  refine qr_iadd 153 rfl rfl ?_
  refine qy_canE (fun v10 hv10 hev10 => ?_)
  refine qr_retI rfl rfl (by decide) (by decide) ?_
  exact ⟨_, _, rfl, hI8, hF9, (by have hw : σ6 42 1 = ((σ 42 1) + 1) := (congrFun (congrFun e7 42) 1).trans rfl; omega), v10, rfl, hv10, (qac_v hev10 (by omega)), (((congrFun e3 43).trans (qw_r_eq.trans (congrArg (fun f => qzu f ((σ 42 1) : Int).toNat 1) rfl))))⟩

set_option maxHeartbeats 4000000 in
set_option maxRecDepth 20000 in
/-- OneRoof$Acts.runFrom -/
theorem sf_152_42ef0_0_0 {L : Nat} {xs : Nat → Int} {vb : Bool} {d : Nat} {σ α : Nat → Nat → Int} {κ : Nat → Option Nat} {ρ : Nat} {x4 : Int} {x5 : Int} {x6 : Int} (hI : qI σ α κ ρ) (r4 : (-2147483648) ≤ x4 ∧ x4 ≤ 2147483647) (r5 : (-2147483648) ≤ x5 ∧ x5 ≤ 2147483647) (r6 : 0 ≤ x6 ∧ x6 ≤ 39) (p0 : 0 ≤ σ 42 1 ∧ σ 42 1 ≤ 23) : qm_T (qe L xs vb) (d + 2) 152 [.ref 42, .int (qz 0), .int (qz 0), .int (qz 0), .int (qz x4), .int (qz x5), .int (qz x6)] (qw σ α κ ρ) (fun r w' => ∃ σ' α', w' = qw σ' α' κ ρ ∧ qI σ' α' κ ρ ∧ qFr [(42, 1)] [43] σ α σ' α' ∧ σ' 42 1 = σ 42 1 + 1 ∧ ∃ v : Int, r = some (.int (qz v)) ∧ ((-2147483648) ≤ v ∧ v ≤ 2147483647) ∧ v = qac_a x4 x5 ∧ α' 43 = qac_t [1] (α 43) (σ 42 1)) := by
  refine qr_start (d := d + 1) qv_e152 (Nat.le_of_ble_eq_true rfl) ?_
  show qr_W (qe L xs vb) (d + 1) qx_e152 _ (0, [(0, .ref 42), (1, .int (qz 0)), (2, .int (qz 0)), (3, .int (qz 0)), (4, .int (qz x4)), (5, .int (qz x5)), (6, .int (qz x6))], [], _, 0, 0)
  have hF0 := qFr_rf [(42, 1)] [43] σ α
  have hz42_1 : (-2147483648) ≤ σ 42 1 ∧ σ 42 1 ≤ 2147483647 := hI.1 42 1
  refine qr_iload_n 1 rfl rfl rfl ?_
  refine qr_istore _ 3 rfl (by decide) rfl rfl ?_
  refine qr_iconst 4 rfl rfl ?_
  refine qr_istore _ 6 rfl (by decide) rfl rfl ?_
  refine qr_iload 8 rfl rfl rfl ?_
  refine qr_getst 11 rfl rfl ?_
  refine qr_alen 12 rfl rfl (by first | exact Or.inl (by decide) | exact Or.inr (Or.inl rfl) | exact Or.inr (Or.inr (Or.inl rfl)) | exact Or.inr (Or.inr (Or.inr (Or.inl rfl)))) rfl ?_
  refine qy_v 7 rfl ?_
  refine qr_icmp_ge 89 15 rfl rfl rfl (by decide) (by decide) (fun h => False.elim (by omega)) (fun h1 => ?_)
  refine qr_iload 17 rfl rfl rfl ?_
  refine qr_if_lt 89 20 rfl rfl rfl (by decide) (fun h => False.elim (by omega)) (fun h2 => ?_)
  refine qr_iload 22 rfl rfl rfl ?_
  refine qr_getst 25 rfl rfl ?_
  refine qr_alen 26 rfl rfl (by first | exact Or.inl (by decide) | exact Or.inr (Or.inl rfl) | exact Or.inr (Or.inr (Or.inl rfl)) | exact Or.inr (Or.inr (Or.inr (Or.inl rfl)))) rfl ?_
  refine qy_v 7 rfl ?_
  refine qr_icmp_ge 89 29 rfl rfl rfl (by decide) (by decide) (fun h => False.elim (by omega)) (fun h3 => ?_)
  refine qr_getst 32 rfl rfl ?_
  refine qr_iload 34 rfl rfl rfl ?_
  refine qr_iconst 35 rfl rfl ?_
  refine qr_imul 36 rfl rfl ?_
  refine qy_v 0 rfl ?_
  refine qr_iload_n 37 rfl rfl rfl ?_
  refine qr_iadd 38 rfl rfl ?_
  refine qy_v 0 rfl ?_
  refine qr_iaload 39 rfl rfl (by decide) (by decide) rfl ?_
  refine qy_v 1 (by decide) ?_
  refine qr_istore _ 41 rfl (by decide) rfl rfl ?_
  refine qr_iload 43 rfl rfl rfl ?_
  refine qr_if_eq 75 46 rfl rfl rfl (by decide) (fun h => False.elim (by omega)) (fun h4 => ?_)
  refine qr_iload 48 rfl rfl rfl ?_
  refine qr_bipush 50 rfl (by decide) rfl ?_
  refine qr_icmp_le 57 53 rfl rfl rfl (qrg r6 (by decide) (by decide)) (by decide) (fun h5 => ?_) (fun h => False.elim (by omega))
  refine qr_aload_n 58 rfl rfl rfl ?_
  refine qr_iload 60 rfl rfl rfl ?_
  refine qr_iload 62 rfl rfl rfl ?_
  refine qr_iload_n 63 rfl rfl rfl ?_
  refine qr_iload 65 rfl rfl rfl ?_
  refine qr_iload 67 rfl rfl rfl ?_
  refine qr_iload 69 rfl rfl rfl ?_
  refine qr_iconst 70 rfl rfl ?_
  refine qr_iadd 71 rfl rfl ?_
  have hs6 : (-2147483648) ≤ σ 42 1 ∧ σ 42 1 ≤ 2147483647 := hI.1 42 1
  refine qr_callN 74 rfl rfl rfl (sf_153_42eb1_0_0 (d := d + 0) hI r4 r5 (by omega) (by omega)) ?_
  rintro _ _ ⟨σ11, α12, rfl, hI13, hG14, hw10, v7, rfl, hv7, hx8, hx9⟩
  have hF15 : qFr [(42, 1)] [43] σ α σ11 α12 := qFr_t hF0 hG14 (by decide) (by decide)
  have hs16 : (-2147483648) ≤ σ11 42 1 ∧ σ11 42 1 ≤ 2147483647 := hI13.1 42 1
  show qr_W (qe L xs vb) (d + 1) qx_e152 _ (74, _, [.int (qz v7)], qw σ11 α12 κ ρ, 0, 0)
  refine qr_retI rfl rfl (by decide) (by decide) ?_
  exact ⟨_, _, rfl, hI13, hF15, (by have hw : σ11 42 1 = (σ11 42 1) := rfl; omega), v7, rfl, hv7, hx8, hx9⟩

set_option maxHeartbeats 4000000 in
set_option maxRecDepth 20000 in
/-- OneRoof$Acts.run -/
theorem sf_151_42er0_0 {L : Nat} {xs : Nat → Int} {vb : Bool} {d : Nat} {σ α : Nat → Nat → Int} {κ : Nat → Option Nat} {ρ : Nat} {x3 : Int} {x4 : Int} {x5 : Int} (hI : qI σ α κ ρ) (r3 : (-2147483648) ≤ x3 ∧ x3 ≤ 2147483647) (r4 : (-2147483648) ≤ x4 ∧ x4 ≤ 2147483647) (r5 : 0 ≤ x5 ∧ x5 ≤ 39) (p0 : 0 ≤ σ 42 1 ∧ σ 42 1 ≤ 23) : qm_T (qe L xs vb) (d + 3) 151 [.ref 42, .int (qz 0), .int (qz 0), .int (qz x3), .int (qz x4), .int (qz x5)] (qw σ α κ ρ) (fun r w' => ∃ σ' α', w' = qw σ' α' κ ρ ∧ qI σ' α' κ ρ ∧ qFr [(42, 1)] [43] σ α σ' α' ∧ σ' 42 1 = σ 42 1 + 1 ∧ ∃ v : Int, r = some (.int (qz v)) ∧ ((-2147483648) ≤ v ∧ v ≤ 2147483647) ∧ v = qac_a x3 x4 ∧ α' 43 = qac_t [1] (α 43) (σ 42 1)) := by
  refine qr_start (d := d + 2) qv_e151 (Nat.le_of_ble_eq_true rfl) ?_
  show qr_W (qe L xs vb) (d + 2) qx_e151 _ (0, [(0, .ref 42), (1, .int (qz 0)), (2, .int (qz 0)), (3, .int (qz x3)), (4, .int (qz x4)), (5, .int (qz x5))], [], _, 0, 0)
  have hF0 := qFr_rf [(42, 1)] [43] σ α
  have hz42_1 : (-2147483648) ≤ σ 42 1 ∧ σ 42 1 ≤ 2147483647 := hI.1 42 1
  refine qr_aload_n 1 rfl rfl rfl ?_
  refine qr_iload_n 2 rfl rfl rfl ?_
  refine qr_iload_n 3 rfl rfl rfl ?_
  refine qr_iload_n 4 rfl rfl rfl ?_
  refine qr_iload_n 5 rfl rfl rfl ?_
  refine qr_iload 7 rfl rfl rfl ?_
  refine qr_iload 9 rfl rfl rfl ?_
  have hs1 : (-2147483648) ≤ σ 42 1 ∧ σ 42 1 ≤ 2147483647 := hI.1 42 1
  refine qr_callN 12 rfl rfl rfl (sf_152_42ef0_0_0 (d := d + 0) hI r3 r4 r5 (by omega)) ?_
  rintro _ _ ⟨σ6, α7, rfl, hI8, hG9, hw5, v2, rfl, hv2, hx3, hx4⟩
  have hF10 : qFr [(42, 1)] [43] σ α σ6 α7 := qFr_t hF0 hG9 (by decide) (by decide)
  have hs11 : (-2147483648) ≤ σ6 42 1 ∧ σ6 42 1 ≤ 2147483647 := hI8.1 42 1
  show qr_W (qe L xs vb) (d + 2) qx_e151 _ (12, _, [.int (qz v2)], qw σ6 α7 κ ρ, 0, 0)
  refine qr_retI rfl rfl (by decide) (by decide) ?_
  exact ⟨_, _, rfl, hI8, hF10, (by have hw : σ6 42 1 = (σ6 42 1) := rfl; omega), v2, rfl, hv2, hx3, hx4⟩

set_option maxHeartbeats 4000000 in
set_option maxRecDepth 20000 in
/-- OneRoof$Acts.start -/
theorem sf_150_42es0_0 {L : Nat} {xs : Nat → Int} {vb : Bool} {d : Nat} {σ α : Nat → Nat → Int} {κ : Nat → Option Nat} {ρ : Nat} {x3 : Int} {x4 : Int} (hI : qI σ α κ ρ) (r3 : (-2147483648) ≤ x3 ∧ x3 ≤ 2147483647) (r4 : (-2147483648) ≤ x4 ∧ x4 ≤ 2147483647) (p0 : 0 ≤ σ 42 1 ∧ σ 42 1 ≤ 23) : qm_T (qe L xs vb) (d + 4) 150 [.ref 42, .int (qz 0), .int (qz 0), .int (qz x3), .int (qz x4)] (qw σ α κ ρ) (fun r w' => ∃ σ' α', w' = qw σ' α' κ ρ ∧ qI σ' α' κ ρ ∧ qFr [(42, 1)] [43] σ α σ' α' ∧ σ' 42 1 = σ 42 1 + 1 ∧ ∃ v : Int, r = some (.int (qz v)) ∧ ((-2147483648) ≤ v ∧ v ≤ 2147483647) ∧ v = qac_a x3 x4 ∧ α' 43 = qac_t [1] (α 43) (σ 42 1)) := by
  refine qr_start (d := d + 3) qv_e150 (Nat.le_of_ble_eq_true rfl) ?_
  show qr_W (qe L xs vb) (d + 3) qx_e150 _ (0, [(0, .ref 42), (1, .int (qz 0)), (2, .int (qz 0)), (3, .int (qz x3)), (4, .int (qz x4))], [], _, 0, 0)
  have hF0 := qFr_rf [(42, 1)] [43] σ α
  have hz42_1 : (-2147483648) ≤ σ 42 1 ∧ σ 42 1 ≤ 2147483647 := hI.1 42 1
  refine qr_aload_n 1 rfl rfl rfl ?_
  refine qr_iload_n 2 rfl rfl rfl ?_
  refine qr_iload_n 3 rfl rfl rfl ?_
  refine qr_iload_n 4 rfl rfl rfl ?_
  refine qr_iload 6 rfl rfl rfl ?_
  refine qr_iconst 7 rfl rfl ?_
  have hs1 : (-2147483648) ≤ σ 42 1 ∧ σ 42 1 ≤ 2147483647 := hI.1 42 1
  refine qr_callN 10 rfl rfl rfl (sf_151_42er0_0 (d := d + 0) hI r3 r4 (by decide) (by omega)) ?_
  rintro _ _ ⟨σ6, α7, rfl, hI8, hG9, hw5, v2, rfl, hv2, hx3, hx4⟩
  have hF10 : qFr [(42, 1)] [43] σ α σ6 α7 := qFr_t hF0 hG9 (by decide) (by decide)
  have hs11 : (-2147483648) ≤ σ6 42 1 ∧ σ6 42 1 ≤ 2147483647 := hI8.1 42 1
  show qr_W (qe L xs vb) (d + 3) qx_e150 _ (10, _, [.int (qz v2)], qw σ6 α7 κ ρ, 0, 0)
  refine qr_retI rfl rfl (by decide) (by decide) ?_
  exact ⟨_, _, rfl, hI8, hF10, (by have hw : σ6 42 1 = (σ6 42 1) := rfl; omega), v2, rfl, hv2, hx3, hx4⟩

set_option maxHeartbeats 4000000 in
set_option maxRecDepth 20000 in
/-- OneRoof$Acts.begin -/
theorem sf_153_42eb10_0_0 {L : Nat} {xs : Nat → Int} {vb : Bool} {d : Nat} {σ α : Nat → Nat → Int} {κ : Nat → Option Nat} {ρ : Nat} {x4 : Int} {x5 : Int} {x6 : Int} (hI : qI σ α κ ρ) (r4 : (-2147483648) ≤ x4 ∧ x4 ≤ 2147483647) (r5 : (-2147483648) ≤ x5 ∧ x5 ≤ 2147483647) (r6 : 0 ≤ x6 ∧ x6 ≤ 39) (p0 : 0 ≤ σ 42 1 ∧ σ 42 1 ≤ 22) : qm_T (qe L xs vb) (d + 4) 153 [.ref 42, .int (qz 10), .int (qz 0), .int (qz 0), .int (qz x4), .int (qz x5), .int (qz x6)] (qw σ α κ ρ) (fun r w' => ∃ σ' α', w' = qw σ' α' κ ρ ∧ qI σ' α' κ ρ ∧ qFr [(42, 1)] [43] σ α σ' α' ∧ σ' 42 1 = σ 42 1 + 2 ∧ ∃ v : Int, r = some (.int (qz v)) ∧ ((-2147483648) ≤ v ∧ v ≤ 2147483647) ∧ v = qac_m (qac_a x4 x5) 2 ∧ α' 43 = qac_t [10, 1] (α 43) (σ 42 1)) := by
  refine qr_start (d := d + 3) qv_e153 (Nat.le_of_ble_eq_true rfl) ?_
  show qr_W (qe L xs vb) (d + 3) qx_e153 _ (0, [(0, .ref 42), (1, .int (qz 10)), (2, .int (qz 0)), (3, .int (qz 0)), (4, .int (qz x4)), (5, .int (qz x5)), (6, .int (qz x6))], [], _, 0, 0)
  have hF0 := qFr_rf [(42, 1)] [43] σ α
  have hz42_1 : (-2147483648) ≤ σ 42 1 ∧ σ 42 1 ≤ 2147483647 := hI.1 42 1
  refine qr_aload_n 1 rfl rfl rfl ?_
  refine qr_get 4 rfl rfl rfl (by decide) rfl ?_
  refine qr_aload_n 5 rfl rfl rfl ?_
  refine qr_get 8 rfl rfl rfl (by decide) rfl ?_
  refine qr_alen 9 rfl rfl (by first | exact Or.inl (by decide) | exact Or.inr (Or.inl rfl) | exact Or.inr (Or.inr (Or.inl rfl)) | exact Or.inr (Or.inr (Or.inr (Or.inl rfl)))) rfl ?_
  refine qy_v 24 rfl ?_
  refine qr_icmp_ge 22 12 rfl rfl rfl hz42_1 (by decide) (fun h => False.elim (by omega)) (fun h1 => ?_)
  refine qr_aload_n 13 rfl rfl rfl ?_
  refine qr_get 16 rfl rfl rfl (by decide) rfl ?_
  refine qr_aload_n 17 rfl rfl rfl ?_
  refine qr_get 20 rfl rfl rfl (by decide) rfl ?_
  refine qr_iload_n 21 rfl rfl rfl ?_
  refine qr_iastore 22 rfl (by decide) rfl (by omega) (by decide) rfl ?_
  refine qy_wA (qw_r α 43 (qzu (α 43) ((σ 42 1) : Int).toNat 10)) rfl (fun α2 e3 => ?_)
  have hI4 : qI σ α2 κ ρ := by rw [e3]; exact qI_r hI 43 _ rfl (show (-2147483648) ≤ 10 ∧ 10 ≤ 2147483647 by omega)
  have hF5 : qFr [(42, 1)] [43] σ α σ α2 := by rw [e3]; exact qFr_r hF0 43 _ (by decide)
  refine qr_aload_n 23 rfl rfl rfl ?_
  refine qr_dup 24 rfl rfl rfl ?_
  refine qr_get 27 rfl rfl rfl (by decide) rfl ?_
  refine qr_iconst 28 rfl rfl ?_
  refine qr_iadd 29 rfl rfl ?_
  refine qr_put 32 rfl (by decide) rfl (Nat.le_of_ble_eq_true rfl) (Nat.le_of_ble_eq_true rfl) (Or.inl rfl) (qr_fitI rfl _) rfl ?_
  refine qy_wS (qw_s σ 42 1 ((σ 42 1) + 1)) rfl (fun σ6 e7 => ?_)
  have hI8 : qI σ6 α2 κ ρ := by rw [e7]; exact qI_s hI4 42 1 rfl (show (-2147483648) ≤ ((σ 42 1) + 1) ∧ ((σ 42 1) + 1) ≤ 2147483647 by omega)
  have hF9 : qFr [(42, 1)] [43] σ α σ6 α2 := by rw [e7]; exact qFr_s hF5 42 1 _ (by decide)
  refine qr_getst 35 rfl rfl ?_
  refine qr_iload_n 36 rfl rfl rfl ?_
  refine qr_iaload 37 rfl rfl (by decide) (by decide) rfl ?_
  refine qy_v (-1) (by decide) ?_
  refine qr_istore _ 39 rfl (by decide) rfl rfl ?_
  refine qr_iload_n 40 rfl rfl rfl ?_
  refine qr_look (off := 139) 179 rfl (by omega) (by decide) (by decide) rfl ?_
  refine qr_aload_n 180 rfl rfl rfl ?_
  refine qr_iload_n 181 rfl rfl rfl ?_
  refine qr_iconst 182 rfl rfl ?_
  refine qr_iload 184 rfl rfl rfl ?_
  refine qr_iload 186 rfl rfl rfl ?_
  refine qr_iload 188 rfl rfl rfl ?_
  have hr10 : σ6 42 1 = ((σ 42 1) + 1) := (congrFun (congrFun e7 42) 1).trans rfl
  have hs11 : (-2147483648) ≤ σ6 42 1 ∧ σ6 42 1 ≤ 2147483647 := hI8.1 42 1
  have hs12 : σ6 42 1 = ((σ 42 1) + 1) := (congrFun (congrFun e7 42) 1).trans rfl
  refine qr_callN 191 rfl rfl rfl (sf_151_42er0_0 (d := d + 0) hI8 r4 r5 r6 (by omega)) ?_
  rintro _ _ ⟨σ17, α18, rfl, hI19, hG20, hw16, v13, rfl, hv13, hx14, hx15⟩
  have hF21 : qFr [(42, 1)] [43] σ α σ17 α18 := qFr_t hF9 hG20 (by decide) (by decide)
  have hs22 : (-2147483648) ≤ σ17 42 1 ∧ σ17 42 1 ≤ 2147483647 := hI19.1 42 1
  show qr_W (qe L xs vb) (d + 3) qx_e153 _ (191, _, [.int (qz v13)], qw σ17 α18 κ ρ, 0, 0)
  refine qr_iconst 192 rfl rfl ?_
  refine qr_imul 193 rfl rfl ?_
  refine qy_canE (fun v23 hv23 hev23 => ?_)
  refine qr_retI rfl rfl (by decide) (by decide) ?_
  exact ⟨_, _, rfl, hI19, hF21, (by have hw : σ17 42 1 = (σ17 42 1) := rfl; omega), v23, rfl, hv23, ((qac_v hev23 (by omega)).trans (by rw [hx14]; rfl)), (by rw [hx15, show α2 43 = qzu (α 43) (σ 42 1 : Int).toNat 10 from ((congrFun e3 43).trans (qw_r_eq.trans (congrArg (fun f => qzu f ((σ 42 1) : Int).toNat 10) rfl))), show σ6 42 1 = σ 42 1 + 1 by omega]; rfl)⟩

set_option maxHeartbeats 4000000 in
set_option maxRecDepth 20000 in
/-- OneRoof$Acts.runFrom -/
theorem sf_152_42ef0_0_1 {L : Nat} {xs : Nat → Int} {vb : Bool} {d : Nat} {σ α : Nat → Nat → Int} {κ : Nat → Option Nat} {ρ : Nat} {x4 : Int} {x5 : Int} {x6 : Int} (hI : qI σ α κ ρ) (r4 : (-2147483648) ≤ x4 ∧ x4 ≤ 2147483647) (r5 : (-2147483648) ≤ x5 ∧ x5 ≤ 2147483647) (r6 : 0 ≤ x6 ∧ x6 ≤ 38) (p0 : 0 ≤ σ 42 1 ∧ σ 42 1 ≤ 22) : qm_T (qe L xs vb) (d + 5) 152 [.ref 42, .int (qz 0), .int (qz 0), .int (qz 1), .int (qz x4), .int (qz x5), .int (qz x6)] (qw σ α κ ρ) (fun r w' => ∃ σ' α', w' = qw σ' α' κ ρ ∧ qI σ' α' κ ρ ∧ qFr [(42, 1)] [43] σ α σ' α' ∧ σ' 42 1 = σ 42 1 + 2 ∧ ∃ v : Int, r = some (.int (qz v)) ∧ ((-2147483648) ≤ v ∧ v ≤ 2147483647) ∧ v = qac_m (qac_a x4 x5) 2 ∧ α' 43 = qac_t [10, 1] (α 43) (σ 42 1)) := by
  refine qr_start (d := d + 4) qv_e152 (Nat.le_of_ble_eq_true rfl) ?_
  show qr_W (qe L xs vb) (d + 4) qx_e152 _ (0, [(0, .ref 42), (1, .int (qz 0)), (2, .int (qz 0)), (3, .int (qz 1)), (4, .int (qz x4)), (5, .int (qz x5)), (6, .int (qz x6))], [], _, 0, 0)
  have hF0 := qFr_rf [(42, 1)] [43] σ α
  have hz42_1 : (-2147483648) ≤ σ 42 1 ∧ σ 42 1 ≤ 2147483647 := hI.1 42 1
  refine qr_iload_n 1 rfl rfl rfl ?_
  refine qr_istore _ 3 rfl (by decide) rfl rfl ?_
  refine qr_iconst 4 rfl rfl ?_
  refine qr_istore _ 6 rfl (by decide) rfl rfl ?_
  refine qr_iload 8 rfl rfl rfl ?_
  refine qr_getst 11 rfl rfl ?_
  refine qr_alen 12 rfl rfl (by first | exact Or.inl (by decide) | exact Or.inr (Or.inl rfl) | exact Or.inr (Or.inr (Or.inl rfl)) | exact Or.inr (Or.inr (Or.inr (Or.inl rfl)))) rfl ?_
  refine qy_v 7 rfl ?_
  refine qr_icmp_ge 89 15 rfl rfl rfl (by decide) (by decide) (fun h => False.elim (by omega)) (fun h1 => ?_)
  refine qr_iload 17 rfl rfl rfl ?_
  refine qr_if_lt 89 20 rfl rfl rfl (by decide) (fun h => False.elim (by omega)) (fun h2 => ?_)
  refine qr_iload 22 rfl rfl rfl ?_
  refine qr_getst 25 rfl rfl ?_
  refine qr_alen 26 rfl rfl (by first | exact Or.inl (by decide) | exact Or.inr (Or.inl rfl) | exact Or.inr (Or.inr (Or.inl rfl)) | exact Or.inr (Or.inr (Or.inr (Or.inl rfl)))) rfl ?_
  refine qy_v 7 rfl ?_
  refine qr_icmp_ge 89 29 rfl rfl rfl (by decide) (by decide) (fun h => False.elim (by omega)) (fun h3 => ?_)
  refine qr_getst 32 rfl rfl ?_
  refine qr_iload 34 rfl rfl rfl ?_
  refine qr_iconst 35 rfl rfl ?_
  refine qr_imul 36 rfl rfl ?_
  refine qy_v 0 rfl ?_
  refine qr_iload_n 37 rfl rfl rfl ?_
  refine qr_iadd 38 rfl rfl ?_
  refine qy_v 1 rfl ?_
  refine qr_iaload 39 rfl rfl (by decide) (by decide) rfl ?_
  refine qy_v 10 (by decide) ?_
  refine qr_istore _ 41 rfl (by decide) rfl rfl ?_
  refine qr_iload 43 rfl rfl rfl ?_
  refine qr_if_eq 75 46 rfl rfl rfl (by decide) (fun h => False.elim (by omega)) (fun h4 => ?_)
  refine qr_iload 48 rfl rfl rfl ?_
  refine qr_bipush 50 rfl (by decide) rfl ?_
  refine qr_icmp_le 57 53 rfl rfl rfl (qrg r6 (by decide) (by decide)) (by decide) (fun h5 => ?_) (fun h => False.elim (by omega))
  refine qr_aload_n 58 rfl rfl rfl ?_
  refine qr_iload 60 rfl rfl rfl ?_
  refine qr_iload 62 rfl rfl rfl ?_
  refine qr_iload_n 63 rfl rfl rfl ?_
  refine qr_iload 65 rfl rfl rfl ?_
  refine qr_iload 67 rfl rfl rfl ?_
  refine qr_iload 69 rfl rfl rfl ?_
  refine qr_iconst 70 rfl rfl ?_
  refine qr_iadd 71 rfl rfl ?_
  have hs6 : (-2147483648) ≤ σ 42 1 ∧ σ 42 1 ≤ 2147483647 := hI.1 42 1
  refine qr_callN 74 rfl rfl rfl (sf_153_42eb10_0_0 (d := d + 0) hI r4 r5 (by omega) (by omega)) ?_
  rintro _ _ ⟨σ11, α12, rfl, hI13, hG14, hw10, v7, rfl, hv7, hx8, hx9⟩
  have hF15 : qFr [(42, 1)] [43] σ α σ11 α12 := qFr_t hF0 hG14 (by decide) (by decide)
  have hs16 : (-2147483648) ≤ σ11 42 1 ∧ σ11 42 1 ≤ 2147483647 := hI13.1 42 1
  show qr_W (qe L xs vb) (d + 4) qx_e152 _ (74, _, [.int (qz v7)], qw σ11 α12 κ ρ, 0, 0)
  refine qr_retI rfl rfl (by decide) (by decide) ?_
  exact ⟨_, _, rfl, hI13, hF15, (by have hw : σ11 42 1 = (σ11 42 1) := rfl; omega), v7, rfl, hv7, hx8, hx9⟩

set_option maxHeartbeats 4000000 in
set_option maxRecDepth 20000 in
/-- OneRoof$Acts.run -/
theorem sf_151_42er0_1 {L : Nat} {xs : Nat → Int} {vb : Bool} {d : Nat} {σ α : Nat → Nat → Int} {κ : Nat → Option Nat} {ρ : Nat} {x3 : Int} {x4 : Int} {x5 : Int} (hI : qI σ α κ ρ) (r3 : (-2147483648) ≤ x3 ∧ x3 ≤ 2147483647) (r4 : (-2147483648) ≤ x4 ∧ x4 ≤ 2147483647) (r5 : 0 ≤ x5 ∧ x5 ≤ 38) (p0 : 0 ≤ σ 42 1 ∧ σ 42 1 ≤ 22) : qm_T (qe L xs vb) (d + 6) 151 [.ref 42, .int (qz 0), .int (qz 1), .int (qz x3), .int (qz x4), .int (qz x5)] (qw σ α κ ρ) (fun r w' => ∃ σ' α', w' = qw σ' α' κ ρ ∧ qI σ' α' κ ρ ∧ qFr [(42, 1)] [43] σ α σ' α' ∧ σ' 42 1 = σ 42 1 + 2 ∧ ∃ v : Int, r = some (.int (qz v)) ∧ ((-2147483648) ≤ v ∧ v ≤ 2147483647) ∧ v = qac_m (qac_a x3 x4) 2 ∧ α' 43 = qac_t [10, 1] (α 43) (σ 42 1)) := by
  refine qr_start (d := d + 5) qv_e151 (Nat.le_of_ble_eq_true rfl) ?_
  show qr_W (qe L xs vb) (d + 5) qx_e151 _ (0, [(0, .ref 42), (1, .int (qz 0)), (2, .int (qz 1)), (3, .int (qz x3)), (4, .int (qz x4)), (5, .int (qz x5))], [], _, 0, 0)
  have hF0 := qFr_rf [(42, 1)] [43] σ α
  have hz42_1 : (-2147483648) ≤ σ 42 1 ∧ σ 42 1 ≤ 2147483647 := hI.1 42 1
  refine qr_aload_n 1 rfl rfl rfl ?_
  refine qr_iload_n 2 rfl rfl rfl ?_
  refine qr_iload_n 3 rfl rfl rfl ?_
  refine qr_iload_n 4 rfl rfl rfl ?_
  refine qr_iload_n 5 rfl rfl rfl ?_
  refine qr_iload 7 rfl rfl rfl ?_
  refine qr_iload 9 rfl rfl rfl ?_
  have hs1 : (-2147483648) ≤ σ 42 1 ∧ σ 42 1 ≤ 2147483647 := hI.1 42 1
  refine qr_callN 12 rfl rfl rfl (sf_152_42ef0_0_1 (d := d + 0) hI r3 r4 r5 (by omega)) ?_
  rintro _ _ ⟨σ6, α7, rfl, hI8, hG9, hw5, v2, rfl, hv2, hx3, hx4⟩
  have hF10 : qFr [(42, 1)] [43] σ α σ6 α7 := qFr_t hF0 hG9 (by decide) (by decide)
  have hs11 : (-2147483648) ≤ σ6 42 1 ∧ σ6 42 1 ≤ 2147483647 := hI8.1 42 1
  show qr_W (qe L xs vb) (d + 5) qx_e151 _ (12, _, [.int (qz v2)], qw σ6 α7 κ ρ, 0, 0)
  refine qr_retI rfl rfl (by decide) (by decide) ?_
  exact ⟨_, _, rfl, hI8, hF10, (by have hw : σ6 42 1 = (σ6 42 1) := rfl; omega), v2, rfl, hv2, hx3, hx4⟩

set_option maxHeartbeats 4000000 in
set_option maxRecDepth 20000 in
/-- OneRoof$Acts.start -/
theorem sf_150_42es0_1 {L : Nat} {xs : Nat → Int} {vb : Bool} {d : Nat} {σ α : Nat → Nat → Int} {κ : Nat → Option Nat} {ρ : Nat} {x3 : Int} {x4 : Int} (hI : qI σ α κ ρ) (r3 : (-2147483648) ≤ x3 ∧ x3 ≤ 2147483647) (r4 : (-2147483648) ≤ x4 ∧ x4 ≤ 2147483647) (p0 : 0 ≤ σ 42 1 ∧ σ 42 1 ≤ 22) : qm_T (qe L xs vb) (d + 7) 150 [.ref 42, .int (qz 0), .int (qz 1), .int (qz x3), .int (qz x4)] (qw σ α κ ρ) (fun r w' => ∃ σ' α', w' = qw σ' α' κ ρ ∧ qI σ' α' κ ρ ∧ qFr [(42, 1)] [43] σ α σ' α' ∧ σ' 42 1 = σ 42 1 + 2 ∧ ∃ v : Int, r = some (.int (qz v)) ∧ ((-2147483648) ≤ v ∧ v ≤ 2147483647) ∧ v = qac_m (qac_a x3 x4) 2 ∧ α' 43 = qac_t [10, 1] (α 43) (σ 42 1)) := by
  refine qr_start (d := d + 6) qv_e150 (Nat.le_of_ble_eq_true rfl) ?_
  show qr_W (qe L xs vb) (d + 6) qx_e150 _ (0, [(0, .ref 42), (1, .int (qz 0)), (2, .int (qz 1)), (3, .int (qz x3)), (4, .int (qz x4))], [], _, 0, 0)
  have hF0 := qFr_rf [(42, 1)] [43] σ α
  have hz42_1 : (-2147483648) ≤ σ 42 1 ∧ σ 42 1 ≤ 2147483647 := hI.1 42 1
  refine qr_aload_n 1 rfl rfl rfl ?_
  refine qr_iload_n 2 rfl rfl rfl ?_
  refine qr_iload_n 3 rfl rfl rfl ?_
  refine qr_iload_n 4 rfl rfl rfl ?_
  refine qr_iload 6 rfl rfl rfl ?_
  refine qr_iconst 7 rfl rfl ?_
  have hs1 : (-2147483648) ≤ σ 42 1 ∧ σ 42 1 ≤ 2147483647 := hI.1 42 1
  refine qr_callN 10 rfl rfl rfl (sf_151_42er0_1 (d := d + 0) hI r3 r4 (by decide) (by omega)) ?_
  rintro _ _ ⟨σ6, α7, rfl, hI8, hG9, hw5, v2, rfl, hv2, hx3, hx4⟩
  have hF10 : qFr [(42, 1)] [43] σ α σ6 α7 := qFr_t hF0 hG9 (by decide) (by decide)
  have hs11 : (-2147483648) ≤ σ6 42 1 ∧ σ6 42 1 ≤ 2147483647 := hI8.1 42 1
  show qr_W (qe L xs vb) (d + 6) qx_e150 _ (10, _, [.int (qz v2)], qw σ6 α7 κ ρ, 0, 0)
  refine qr_retI rfl rfl (by decide) (by decide) ?_
  exact ⟨_, _, rfl, hI8, hF10, (by have hw : σ6 42 1 = (σ6 42 1) := rfl; omega), v2, rfl, hv2, hx3, hx4⟩

set_option maxHeartbeats 4000000 in
set_option maxRecDepth 20000 in
/-- OneRoof$Acts.begin -/
theorem sf_153_42eb11_0_0 {L : Nat} {xs : Nat → Int} {vb : Bool} {d : Nat} {σ α : Nat → Nat → Int} {κ : Nat → Option Nat} {ρ : Nat} {x4 : Int} {x5 : Int} {x6 : Int} (hI : qI σ α κ ρ) (r4 : (-2147483648) ≤ x4 ∧ x4 ≤ 2147483647) (r5 : (-2147483648) ≤ x5 ∧ x5 ≤ 2147483647) (r6 : 0 ≤ x6 ∧ x6 ≤ 40) (p0 : 0 ≤ σ 42 1 ∧ σ 42 1 ≤ 23) : qm_T (qe L xs vb) (d + 1) 153 [.ref 42, .int (qz 11), .int (qz 0), .int (qz 0), .int (qz x4), .int (qz x5), .int (qz x6)] (qw σ α κ ρ) (fun r w' => ∃ σ' α', w' = qw σ' α' κ ρ ∧ qI σ' α' κ ρ ∧ qFr [(42, 1)] [43] σ α σ' α' ∧ σ' 42 1 = σ 42 1 + 1 ∧ ∃ v : Int, r = some (.int (qz v)) ∧ ((-2147483648) ≤ v ∧ v ≤ 2147483647) ∧ v = qac_x x4 x5 ∧ α' 43 = qac_t [11] (α 43) (σ 42 1)) := by
  refine qr_start (d := d + 0) qv_e153 (Nat.le_of_ble_eq_true rfl) ?_
  show qr_W (qe L xs vb) (d + 0) qx_e153 _ (0, [(0, .ref 42), (1, .int (qz 11)), (2, .int (qz 0)), (3, .int (qz 0)), (4, .int (qz x4)), (5, .int (qz x5)), (6, .int (qz x6))], [], _, 0, 0)
  have hF0 := qFr_rf [(42, 1)] [43] σ α
  have hz42_1 : (-2147483648) ≤ σ 42 1 ∧ σ 42 1 ≤ 2147483647 := hI.1 42 1
  refine qr_aload_n 1 rfl rfl rfl ?_
  refine qr_get 4 rfl rfl rfl (by decide) rfl ?_
  refine qr_aload_n 5 rfl rfl rfl ?_
  refine qr_get 8 rfl rfl rfl (by decide) rfl ?_
  refine qr_alen 9 rfl rfl (by first | exact Or.inl (by decide) | exact Or.inr (Or.inl rfl) | exact Or.inr (Or.inr (Or.inl rfl)) | exact Or.inr (Or.inr (Or.inr (Or.inl rfl)))) rfl ?_
  refine qy_v 24 rfl ?_
  refine qr_icmp_ge 22 12 rfl rfl rfl hz42_1 (by decide) (fun h => False.elim (by omega)) (fun h1 => ?_)
  refine qr_aload_n 13 rfl rfl rfl ?_
  refine qr_get 16 rfl rfl rfl (by decide) rfl ?_
  refine qr_aload_n 17 rfl rfl rfl ?_
  refine qr_get 20 rfl rfl rfl (by decide) rfl ?_
  refine qr_iload_n 21 rfl rfl rfl ?_
  refine qr_iastore 22 rfl (by decide) rfl (by omega) (by decide) rfl ?_
  refine qy_wA (qw_r α 43 (qzu (α 43) ((σ 42 1) : Int).toNat 11)) rfl (fun α2 e3 => ?_)
  have hI4 : qI σ α2 κ ρ := by rw [e3]; exact qI_r hI 43 _ rfl (show (-2147483648) ≤ 11 ∧ 11 ≤ 2147483647 by omega)
  have hF5 : qFr [(42, 1)] [43] σ α σ α2 := by rw [e3]; exact qFr_r hF0 43 _ (by decide)
  refine qr_aload_n 23 rfl rfl rfl ?_
  refine qr_dup 24 rfl rfl rfl ?_
  refine qr_get 27 rfl rfl rfl (by decide) rfl ?_
  refine qr_iconst 28 rfl rfl ?_
  refine qr_iadd 29 rfl rfl ?_
  refine qr_put 32 rfl (by decide) rfl (Nat.le_of_ble_eq_true rfl) (Nat.le_of_ble_eq_true rfl) (Or.inl rfl) (qr_fitI rfl _) rfl ?_
  refine qy_wS (qw_s σ 42 1 ((σ 42 1) + 1)) rfl (fun σ6 e7 => ?_)
  have hI8 : qI σ6 α2 κ ρ := by rw [e7]; exact qI_s hI4 42 1 rfl (show (-2147483648) ≤ ((σ 42 1) + 1) ∧ ((σ 42 1) + 1) ≤ 2147483647 by omega)
  have hF9 : qFr [(42, 1)] [43] σ α σ6 α2 := by rw [e7]; exact qFr_s hF5 42 1 _ (by decide)
  refine qr_getst 35 rfl rfl ?_
  refine qr_iload_n 36 rfl rfl rfl ?_
  refine qr_iaload 37 rfl rfl (by decide) (by decide) rfl ?_
  refine qy_v (-1) (by decide) ?_
  refine qr_istore _ 39 rfl (by decide) rfl rfl ?_
  refine qr_iload_n 40 rfl rfl rfl ?_
  refine qr_look (off := 154) 194 rfl (by omega) (by decide) (by decide) rfl ?_
  refine qr_iload 196 rfl rfl rfl ?_
  refine qr_iload 198 rfl rfl rfl ?_
  refine qr_ixor 199 rfl rfl ?_
  refine qy_canE (fun v10 hv10 hev10 => ?_)
  refine qr_retI rfl rfl (by decide) (by decide) ?_
  exact ⟨_, _, rfl, hI8, hF9, (by have hw : σ6 42 1 = ((σ 42 1) + 1) := (congrFun (congrFun e7 42) 1).trans rfl; omega), v10, rfl, hv10, (qac_v hev10 (by omega)), (((congrFun e3 43).trans (qw_r_eq.trans (congrArg (fun f => qzu f ((σ 42 1) : Int).toNat 11) rfl))))⟩

set_option maxHeartbeats 4000000 in
set_option maxRecDepth 20000 in
/-- OneRoof$Acts.runFrom -/
theorem sf_152_42ef0_0_2 {L : Nat} {xs : Nat → Int} {vb : Bool} {d : Nat} {σ α : Nat → Nat → Int} {κ : Nat → Option Nat} {ρ : Nat} {x4 : Int} {x5 : Int} {x6 : Int} (hI : qI σ α κ ρ) (r4 : (-2147483648) ≤ x4 ∧ x4 ≤ 2147483647) (r5 : (-2147483648) ≤ x5 ∧ x5 ≤ 2147483647) (r6 : 0 ≤ x6 ∧ x6 ≤ 39) (p0 : 0 ≤ σ 42 1 ∧ σ 42 1 ≤ 23) : qm_T (qe L xs vb) (d + 2) 152 [.ref 42, .int (qz 0), .int (qz 0), .int (qz 2), .int (qz x4), .int (qz x5), .int (qz x6)] (qw σ α κ ρ) (fun r w' => ∃ σ' α', w' = qw σ' α' κ ρ ∧ qI σ' α' κ ρ ∧ qFr [(42, 1)] [43] σ α σ' α' ∧ σ' 42 1 = σ 42 1 + 1 ∧ ∃ v : Int, r = some (.int (qz v)) ∧ ((-2147483648) ≤ v ∧ v ≤ 2147483647) ∧ v = qac_x x4 x5 ∧ α' 43 = qac_t [11] (α 43) (σ 42 1)) := by
  refine qr_start (d := d + 1) qv_e152 (Nat.le_of_ble_eq_true rfl) ?_
  show qr_W (qe L xs vb) (d + 1) qx_e152 _ (0, [(0, .ref 42), (1, .int (qz 0)), (2, .int (qz 0)), (3, .int (qz 2)), (4, .int (qz x4)), (5, .int (qz x5)), (6, .int (qz x6))], [], _, 0, 0)
  have hF0 := qFr_rf [(42, 1)] [43] σ α
  have hz42_1 : (-2147483648) ≤ σ 42 1 ∧ σ 42 1 ≤ 2147483647 := hI.1 42 1
  refine qr_iload_n 1 rfl rfl rfl ?_
  refine qr_istore _ 3 rfl (by decide) rfl rfl ?_
  refine qr_iconst 4 rfl rfl ?_
  refine qr_istore _ 6 rfl (by decide) rfl rfl ?_
  refine qr_iload 8 rfl rfl rfl ?_
  refine qr_getst 11 rfl rfl ?_
  refine qr_alen 12 rfl rfl (by first | exact Or.inl (by decide) | exact Or.inr (Or.inl rfl) | exact Or.inr (Or.inr (Or.inl rfl)) | exact Or.inr (Or.inr (Or.inr (Or.inl rfl)))) rfl ?_
  refine qy_v 7 rfl ?_
  refine qr_icmp_ge 89 15 rfl rfl rfl (by decide) (by decide) (fun h => False.elim (by omega)) (fun h1 => ?_)
  refine qr_iload 17 rfl rfl rfl ?_
  refine qr_if_lt 89 20 rfl rfl rfl (by decide) (fun h => False.elim (by omega)) (fun h2 => ?_)
  refine qr_iload 22 rfl rfl rfl ?_
  refine qr_getst 25 rfl rfl ?_
  refine qr_alen 26 rfl rfl (by first | exact Or.inl (by decide) | exact Or.inr (Or.inl rfl) | exact Or.inr (Or.inr (Or.inl rfl)) | exact Or.inr (Or.inr (Or.inr (Or.inl rfl)))) rfl ?_
  refine qy_v 7 rfl ?_
  refine qr_icmp_ge 89 29 rfl rfl rfl (by decide) (by decide) (fun h => False.elim (by omega)) (fun h3 => ?_)
  refine qr_getst 32 rfl rfl ?_
  refine qr_iload 34 rfl rfl rfl ?_
  refine qr_iconst 35 rfl rfl ?_
  refine qr_imul 36 rfl rfl ?_
  refine qy_v 0 rfl ?_
  refine qr_iload_n 37 rfl rfl rfl ?_
  refine qr_iadd 38 rfl rfl ?_
  refine qy_v 2 rfl ?_
  refine qr_iaload 39 rfl rfl (by decide) (by decide) rfl ?_
  refine qy_v 11 (by decide) ?_
  refine qr_istore _ 41 rfl (by decide) rfl rfl ?_
  refine qr_iload 43 rfl rfl rfl ?_
  refine qr_if_eq 75 46 rfl rfl rfl (by decide) (fun h => False.elim (by omega)) (fun h4 => ?_)
  refine qr_iload 48 rfl rfl rfl ?_
  refine qr_bipush 50 rfl (by decide) rfl ?_
  refine qr_icmp_le 57 53 rfl rfl rfl (qrg r6 (by decide) (by decide)) (by decide) (fun h5 => ?_) (fun h => False.elim (by omega))
  refine qr_aload_n 58 rfl rfl rfl ?_
  refine qr_iload 60 rfl rfl rfl ?_
  refine qr_iload 62 rfl rfl rfl ?_
  refine qr_iload_n 63 rfl rfl rfl ?_
  refine qr_iload 65 rfl rfl rfl ?_
  refine qr_iload 67 rfl rfl rfl ?_
  refine qr_iload 69 rfl rfl rfl ?_
  refine qr_iconst 70 rfl rfl ?_
  refine qr_iadd 71 rfl rfl ?_
  have hs6 : (-2147483648) ≤ σ 42 1 ∧ σ 42 1 ≤ 2147483647 := hI.1 42 1
  refine qr_callN 74 rfl rfl rfl (sf_153_42eb11_0_0 (d := d + 0) hI r4 r5 (by omega) (by omega)) ?_
  rintro _ _ ⟨σ11, α12, rfl, hI13, hG14, hw10, v7, rfl, hv7, hx8, hx9⟩
  have hF15 : qFr [(42, 1)] [43] σ α σ11 α12 := qFr_t hF0 hG14 (by decide) (by decide)
  have hs16 : (-2147483648) ≤ σ11 42 1 ∧ σ11 42 1 ≤ 2147483647 := hI13.1 42 1
  show qr_W (qe L xs vb) (d + 1) qx_e152 _ (74, _, [.int (qz v7)], qw σ11 α12 κ ρ, 0, 0)
  refine qr_retI rfl rfl (by decide) (by decide) ?_
  exact ⟨_, _, rfl, hI13, hF15, (by have hw : σ11 42 1 = (σ11 42 1) := rfl; omega), v7, rfl, hv7, hx8, hx9⟩

set_option maxHeartbeats 4000000 in
set_option maxRecDepth 20000 in
/-- OneRoof$Acts.run -/
theorem sf_151_42er0_2 {L : Nat} {xs : Nat → Int} {vb : Bool} {d : Nat} {σ α : Nat → Nat → Int} {κ : Nat → Option Nat} {ρ : Nat} {x3 : Int} {x4 : Int} {x5 : Int} (hI : qI σ α κ ρ) (r3 : (-2147483648) ≤ x3 ∧ x3 ≤ 2147483647) (r4 : (-2147483648) ≤ x4 ∧ x4 ≤ 2147483647) (r5 : 0 ≤ x5 ∧ x5 ≤ 39) (p0 : 0 ≤ σ 42 1 ∧ σ 42 1 ≤ 23) : qm_T (qe L xs vb) (d + 3) 151 [.ref 42, .int (qz 0), .int (qz 2), .int (qz x3), .int (qz x4), .int (qz x5)] (qw σ α κ ρ) (fun r w' => ∃ σ' α', w' = qw σ' α' κ ρ ∧ qI σ' α' κ ρ ∧ qFr [(42, 1)] [43] σ α σ' α' ∧ σ' 42 1 = σ 42 1 + 1 ∧ ∃ v : Int, r = some (.int (qz v)) ∧ ((-2147483648) ≤ v ∧ v ≤ 2147483647) ∧ v = qac_x x3 x4 ∧ α' 43 = qac_t [11] (α 43) (σ 42 1)) := by
  refine qr_start (d := d + 2) qv_e151 (Nat.le_of_ble_eq_true rfl) ?_
  show qr_W (qe L xs vb) (d + 2) qx_e151 _ (0, [(0, .ref 42), (1, .int (qz 0)), (2, .int (qz 2)), (3, .int (qz x3)), (4, .int (qz x4)), (5, .int (qz x5))], [], _, 0, 0)
  have hF0 := qFr_rf [(42, 1)] [43] σ α
  have hz42_1 : (-2147483648) ≤ σ 42 1 ∧ σ 42 1 ≤ 2147483647 := hI.1 42 1
  refine qr_aload_n 1 rfl rfl rfl ?_
  refine qr_iload_n 2 rfl rfl rfl ?_
  refine qr_iload_n 3 rfl rfl rfl ?_
  refine qr_iload_n 4 rfl rfl rfl ?_
  refine qr_iload_n 5 rfl rfl rfl ?_
  refine qr_iload 7 rfl rfl rfl ?_
  refine qr_iload 9 rfl rfl rfl ?_
  have hs1 : (-2147483648) ≤ σ 42 1 ∧ σ 42 1 ≤ 2147483647 := hI.1 42 1
  refine qr_callN 12 rfl rfl rfl (sf_152_42ef0_0_2 (d := d + 0) hI r3 r4 r5 (by omega)) ?_
  rintro _ _ ⟨σ6, α7, rfl, hI8, hG9, hw5, v2, rfl, hv2, hx3, hx4⟩
  have hF10 : qFr [(42, 1)] [43] σ α σ6 α7 := qFr_t hF0 hG9 (by decide) (by decide)
  have hs11 : (-2147483648) ≤ σ6 42 1 ∧ σ6 42 1 ≤ 2147483647 := hI8.1 42 1
  show qr_W (qe L xs vb) (d + 2) qx_e151 _ (12, _, [.int (qz v2)], qw σ6 α7 κ ρ, 0, 0)
  refine qr_retI rfl rfl (by decide) (by decide) ?_
  exact ⟨_, _, rfl, hI8, hF10, (by have hw : σ6 42 1 = (σ6 42 1) := rfl; omega), v2, rfl, hv2, hx3, hx4⟩

set_option maxHeartbeats 4000000 in
set_option maxRecDepth 20000 in
/-- OneRoof$Acts.start -/
theorem sf_150_42es0_2 {L : Nat} {xs : Nat → Int} {vb : Bool} {d : Nat} {σ α : Nat → Nat → Int} {κ : Nat → Option Nat} {ρ : Nat} {x3 : Int} {x4 : Int} (hI : qI σ α κ ρ) (r3 : (-2147483648) ≤ x3 ∧ x3 ≤ 2147483647) (r4 : (-2147483648) ≤ x4 ∧ x4 ≤ 2147483647) (p0 : 0 ≤ σ 42 1 ∧ σ 42 1 ≤ 23) : qm_T (qe L xs vb) (d + 4) 150 [.ref 42, .int (qz 0), .int (qz 2), .int (qz x3), .int (qz x4)] (qw σ α κ ρ) (fun r w' => ∃ σ' α', w' = qw σ' α' κ ρ ∧ qI σ' α' κ ρ ∧ qFr [(42, 1)] [43] σ α σ' α' ∧ σ' 42 1 = σ 42 1 + 1 ∧ ∃ v : Int, r = some (.int (qz v)) ∧ ((-2147483648) ≤ v ∧ v ≤ 2147483647) ∧ v = qac_x x3 x4 ∧ α' 43 = qac_t [11] (α 43) (σ 42 1)) := by
  refine qr_start (d := d + 3) qv_e150 (Nat.le_of_ble_eq_true rfl) ?_
  show qr_W (qe L xs vb) (d + 3) qx_e150 _ (0, [(0, .ref 42), (1, .int (qz 0)), (2, .int (qz 2)), (3, .int (qz x3)), (4, .int (qz x4))], [], _, 0, 0)
  have hF0 := qFr_rf [(42, 1)] [43] σ α
  have hz42_1 : (-2147483648) ≤ σ 42 1 ∧ σ 42 1 ≤ 2147483647 := hI.1 42 1
  refine qr_aload_n 1 rfl rfl rfl ?_
  refine qr_iload_n 2 rfl rfl rfl ?_
  refine qr_iload_n 3 rfl rfl rfl ?_
  refine qr_iload_n 4 rfl rfl rfl ?_
  refine qr_iload 6 rfl rfl rfl ?_
  refine qr_iconst 7 rfl rfl ?_
  have hs1 : (-2147483648) ≤ σ 42 1 ∧ σ 42 1 ≤ 2147483647 := hI.1 42 1
  refine qr_callN 10 rfl rfl rfl (sf_151_42er0_2 (d := d + 0) hI r3 r4 (by decide) (by omega)) ?_
  rintro _ _ ⟨σ6, α7, rfl, hI8, hG9, hw5, v2, rfl, hv2, hx3, hx4⟩
  have hF10 : qFr [(42, 1)] [43] σ α σ6 α7 := qFr_t hF0 hG9 (by decide) (by decide)
  have hs11 : (-2147483648) ≤ σ6 42 1 ∧ σ6 42 1 ≤ 2147483647 := hI8.1 42 1
  show qr_W (qe L xs vb) (d + 3) qx_e150 _ (10, _, [.int (qz v2)], qw σ6 α7 κ ρ, 0, 0)
  refine qr_retI rfl rfl (by decide) (by decide) ?_
  exact ⟨_, _, rfl, hI8, hF10, (by have hw : σ6 42 1 = (σ6 42 1) := rfl; omega), v2, rfl, hv2, hx3, hx4⟩

set_option maxHeartbeats 4000000 in
set_option maxRecDepth 20000 in
/-- OneRoof$Acts.begin -/
theorem sf_153_42eb2_0_0 {L : Nat} {xs : Nat → Int} {vb : Bool} {d : Nat} {σ α : Nat → Nat → Int} {κ : Nat → Option Nat} {ρ : Nat} {x4 : Int} {x5 : Int} {x6 : Int} (hI : qI σ α κ ρ) (r4 : (-2147483648) ≤ x4 ∧ x4 ≤ 2147483647) (r5 : (-2147483648) ≤ x5 ∧ x5 ≤ 2147483647) (r6 : 0 ≤ x6 ∧ x6 ≤ 38) (p0 : 0 ≤ σ 42 1 ∧ σ 42 1 ≤ 20) : qm_T (qe L xs vb) (d + 7) 153 [.ref 42, .int (qz 2), .int (qz 0), .int (qz 0), .int (qz x4), .int (qz x5), .int (qz x6)] (qw σ α κ ρ) (fun r w' => ∃ σ' α', w' = qw σ' α' κ ρ ∧ qI σ' α' κ ρ ∧ qFr [(42, 1)] [43] σ α σ' α' ∧ σ' 42 1 = σ 42 1 + 4 ∧ ∃ v : Int, r = some (.int (qz v)) ∧ ((-2147483648) ≤ v ∧ v ≤ 2147483647) ∧ v = qac_s (qac_m (qac_a x4 x5) 2) (qac_x 1 x5) ∧ α' 43 = qac_t [2, 10, 1, 11] (α 43) (σ 42 1)) := by
  refine qr_start (d := d + 6) qv_e153 (Nat.le_of_ble_eq_true rfl) ?_
  show qr_W (qe L xs vb) (d + 6) qx_e153 _ (0, [(0, .ref 42), (1, .int (qz 2)), (2, .int (qz 0)), (3, .int (qz 0)), (4, .int (qz x4)), (5, .int (qz x5)), (6, .int (qz x6))], [], _, 0, 0)
  have hF0 := qFr_rf [(42, 1)] [43] σ α
  have hz42_1 : (-2147483648) ≤ σ 42 1 ∧ σ 42 1 ≤ 2147483647 := hI.1 42 1
  refine qr_aload_n 1 rfl rfl rfl ?_
  refine qr_get 4 rfl rfl rfl (by decide) rfl ?_
  refine qr_aload_n 5 rfl rfl rfl ?_
  refine qr_get 8 rfl rfl rfl (by decide) rfl ?_
  refine qr_alen 9 rfl rfl (by first | exact Or.inl (by decide) | exact Or.inr (Or.inl rfl) | exact Or.inr (Or.inr (Or.inl rfl)) | exact Or.inr (Or.inr (Or.inr (Or.inl rfl)))) rfl ?_
  refine qy_v 24 rfl ?_
  refine qr_icmp_ge 22 12 rfl rfl rfl hz42_1 (by decide) (fun h => False.elim (by omega)) (fun h1 => ?_)
  refine qr_aload_n 13 rfl rfl rfl ?_
  refine qr_get 16 rfl rfl rfl (by decide) rfl ?_
  refine qr_aload_n 17 rfl rfl rfl ?_
  refine qr_get 20 rfl rfl rfl (by decide) rfl ?_
  refine qr_iload_n 21 rfl rfl rfl ?_
  refine qr_iastore 22 rfl (by decide) rfl (by omega) (by decide) rfl ?_
  refine qy_wA (qw_r α 43 (qzu (α 43) ((σ 42 1) : Int).toNat 2)) rfl (fun α2 e3 => ?_)
  have hI4 : qI σ α2 κ ρ := by rw [e3]; exact qI_r hI 43 _ rfl (show (-2147483648) ≤ 2 ∧ 2 ≤ 2147483647 by omega)
  have hF5 : qFr [(42, 1)] [43] σ α σ α2 := by rw [e3]; exact qFr_r hF0 43 _ (by decide)
  refine qr_aload_n 23 rfl rfl rfl ?_
  refine qr_dup 24 rfl rfl rfl ?_
  refine qr_get 27 rfl rfl rfl (by decide) rfl ?_
  refine qr_iconst 28 rfl rfl ?_
  refine qr_iadd 29 rfl rfl ?_
  refine qr_put 32 rfl (by decide) rfl (Nat.le_of_ble_eq_true rfl) (Nat.le_of_ble_eq_true rfl) (Or.inl rfl) (qr_fitI rfl _) rfl ?_
  refine qy_wS (qw_s σ 42 1 ((σ 42 1) + 1)) rfl (fun σ6 e7 => ?_)
  have hI8 : qI σ6 α2 κ ρ := by rw [e7]; exact qI_s hI4 42 1 rfl (show (-2147483648) ≤ ((σ 42 1) + 1) ∧ ((σ 42 1) + 1) ≤ 2147483647 by omega)
  have hF9 : qFr [(42, 1)] [43] σ α σ6 α2 := by rw [e7]; exact qFr_s hF5 42 1 _ (by decide)
  refine qr_getst 35 rfl rfl ?_
  refine qr_iload_n 36 rfl rfl rfl ?_
  refine qr_iaload 37 rfl rfl (by decide) (by decide) rfl ?_
  refine qy_v (-1) (by decide) ?_
  refine qr_istore _ 39 rfl (by decide) rfl rfl ?_
  refine qr_iload_n 40 rfl rfl rfl ?_
  refine qr_look (off := 114) 154 rfl (by omega) (by decide) (by decide) rfl ?_
  refine qr_aload_n 155 rfl rfl rfl ?_
  refine qr_iload_n 156 rfl rfl rfl ?_
  refine qr_iconst 157 rfl rfl ?_
  refine qr_iload 159 rfl rfl rfl ?_
  refine qr_iload 161 rfl rfl rfl ?_
  refine qr_iload 163 rfl rfl rfl ?_
  have hr10 : σ6 42 1 = ((σ 42 1) + 1) := (congrFun (congrFun e7 42) 1).trans rfl
  have hs11 : (-2147483648) ≤ σ6 42 1 ∧ σ6 42 1 ≤ 2147483647 := hI8.1 42 1
  have hs12 : σ6 42 1 = ((σ 42 1) + 1) := (congrFun (congrFun e7 42) 1).trans rfl
  refine qr_callN 166 rfl rfl rfl (sf_151_42er0_1 (d := d + 0) hI8 r4 r5 r6 (by omega)) ?_
  rintro _ _ ⟨σ17, α18, rfl, hI19, hG20, hw16, v13, rfl, hv13, hx14, hx15⟩
  have hF21 : qFr [(42, 1)] [43] σ α σ17 α18 := qFr_t hF9 hG20 (by decide) (by decide)
  have hs22 : (-2147483648) ≤ σ17 42 1 ∧ σ17 42 1 ≤ 2147483647 := hI19.1 42 1
  show qr_W (qe L xs vb) (d + 6) qx_e153 _ (166, _, [.int (qz v13)], qw σ17 α18 κ ρ, 0, 0)
  refine qr_aload_n 167 rfl rfl rfl ?_
  refine qr_iload_n 168 rfl rfl rfl ?_
  refine qr_iconst 169 rfl rfl ?_
  refine qr_iconst 170 rfl rfl ?_
  refine qr_iload 172 rfl rfl rfl ?_
  refine qr_iload 174 rfl rfl rfl ?_
  have hr23 : σ17 42 1 = (σ17 42 1) := rfl
  have hs24 : (-2147483648) ≤ σ17 42 1 ∧ σ17 42 1 ≤ 2147483647 := hI19.1 42 1
  refine qr_callN 177 rfl rfl rfl (sf_151_42er0_2 (d := d + 3) hI19 (by decide) r5 (qrg r6 (by decide) (by decide)) (by omega)) ?_
  rintro _ _ ⟨σ29, α30, rfl, hI31, hG32, hw28, v25, rfl, hv25, hx26, hx27⟩
  have hF33 : qFr [(42, 1)] [43] σ α σ29 α30 := qFr_t hF21 hG32 (by decide) (by decide)
  have hs34 : (-2147483648) ≤ σ29 42 1 ∧ σ29 42 1 ≤ 2147483647 := hI31.1 42 1
  show qr_W (qe L xs vb) (d + 6) qx_e153 _ (177, _, [.int (qz v25), .int (qz v13)], qw σ29 α30 κ ρ, 0, 0)
  refine qr_isub 178 rfl rfl ?_
  refine qy_canE (fun v35 hv35 hev35 => ?_)
  refine qr_retI rfl rfl (by decide) (by decide) ?_
  exact ⟨_, _, rfl, hI31, hF33, (by have hw : σ29 42 1 = (σ29 42 1) := rfl; omega), v35, rfl, hv35, ((qac_v hev35 (by omega)).trans (by rw [hx14, hx26]; rfl)), (by rw [hx27, hx15, show α2 43 = qzu (α 43) (σ 42 1 : Int).toNat 2 from ((congrFun e3 43).trans (qw_r_eq.trans (congrArg (fun f => qzu f ((σ 42 1) : Int).toNat 2) rfl))), show σ6 42 1 = σ 42 1 + 1 by omega, show σ17 42 1 = σ 42 1 + 1 + 2 by omega]; exact (qac_t_app [10, 1] [11] (qzu (α 43) (σ 42 1 : Int).toNat 2) (σ 42 1 + 1)).symm)⟩

set_option maxHeartbeats 4000000 in
set_option maxRecDepth 20000 in
/-- OneRoof$Acts.runFrom -/
theorem sf_152_42ef0_0_3 {L : Nat} {xs : Nat → Int} {vb : Bool} {d : Nat} {σ α : Nat → Nat → Int} {κ : Nat → Option Nat} {ρ : Nat} {x4 : Int} {x5 : Int} {x6 : Int} (hI : qI σ α κ ρ) (r4 : (-2147483648) ≤ x4 ∧ x4 ≤ 2147483647) (r5 : (-2147483648) ≤ x5 ∧ x5 ≤ 2147483647) (r6 : 0 ≤ x6 ∧ x6 ≤ 37) (p0 : 0 ≤ σ 42 1 ∧ σ 42 1 ≤ 20) : qm_T (qe L xs vb) (d + 8) 152 [.ref 42, .int (qz 0), .int (qz 0), .int (qz 3), .int (qz x4), .int (qz x5), .int (qz x6)] (qw σ α κ ρ) (fun r w' => ∃ σ' α', w' = qw σ' α' κ ρ ∧ qI σ' α' κ ρ ∧ qFr [(42, 1)] [43] σ α σ' α' ∧ σ' 42 1 = σ 42 1 + 4 ∧ ∃ v : Int, r = some (.int (qz v)) ∧ ((-2147483648) ≤ v ∧ v ≤ 2147483647) ∧ v = qac_s (qac_m (qac_a x4 x5) 2) (qac_x 1 x5) ∧ α' 43 = qac_t [2, 10, 1, 11] (α 43) (σ 42 1)) := by
  refine qr_start (d := d + 7) qv_e152 (Nat.le_of_ble_eq_true rfl) ?_
  show qr_W (qe L xs vb) (d + 7) qx_e152 _ (0, [(0, .ref 42), (1, .int (qz 0)), (2, .int (qz 0)), (3, .int (qz 3)), (4, .int (qz x4)), (5, .int (qz x5)), (6, .int (qz x6))], [], _, 0, 0)
  have hF0 := qFr_rf [(42, 1)] [43] σ α
  have hz42_1 : (-2147483648) ≤ σ 42 1 ∧ σ 42 1 ≤ 2147483647 := hI.1 42 1
  refine qr_iload_n 1 rfl rfl rfl ?_
  refine qr_istore _ 3 rfl (by decide) rfl rfl ?_
  refine qr_iconst 4 rfl rfl ?_
  refine qr_istore _ 6 rfl (by decide) rfl rfl ?_
  refine qr_iload 8 rfl rfl rfl ?_
  refine qr_getst 11 rfl rfl ?_
  refine qr_alen 12 rfl rfl (by first | exact Or.inl (by decide) | exact Or.inr (Or.inl rfl) | exact Or.inr (Or.inr (Or.inl rfl)) | exact Or.inr (Or.inr (Or.inr (Or.inl rfl)))) rfl ?_
  refine qy_v 7 rfl ?_
  refine qr_icmp_ge 89 15 rfl rfl rfl (by decide) (by decide) (fun h => False.elim (by omega)) (fun h1 => ?_)
  refine qr_iload 17 rfl rfl rfl ?_
  refine qr_if_lt 89 20 rfl rfl rfl (by decide) (fun h => False.elim (by omega)) (fun h2 => ?_)
  refine qr_iload 22 rfl rfl rfl ?_
  refine qr_getst 25 rfl rfl ?_
  refine qr_alen 26 rfl rfl (by first | exact Or.inl (by decide) | exact Or.inr (Or.inl rfl) | exact Or.inr (Or.inr (Or.inl rfl)) | exact Or.inr (Or.inr (Or.inr (Or.inl rfl)))) rfl ?_
  refine qy_v 7 rfl ?_
  refine qr_icmp_ge 89 29 rfl rfl rfl (by decide) (by decide) (fun h => False.elim (by omega)) (fun h3 => ?_)
  refine qr_getst 32 rfl rfl ?_
  refine qr_iload 34 rfl rfl rfl ?_
  refine qr_iconst 35 rfl rfl ?_
  refine qr_imul 36 rfl rfl ?_
  refine qy_v 0 rfl ?_
  refine qr_iload_n 37 rfl rfl rfl ?_
  refine qr_iadd 38 rfl rfl ?_
  refine qy_v 3 rfl ?_
  refine qr_iaload 39 rfl rfl (by decide) (by decide) rfl ?_
  refine qy_v 2 (by decide) ?_
  refine qr_istore _ 41 rfl (by decide) rfl rfl ?_
  refine qr_iload 43 rfl rfl rfl ?_
  refine qr_if_eq 75 46 rfl rfl rfl (by decide) (fun h => False.elim (by omega)) (fun h4 => ?_)
  refine qr_iload 48 rfl rfl rfl ?_
  refine qr_bipush 50 rfl (by decide) rfl ?_
  refine qr_icmp_le 57 53 rfl rfl rfl (qrg r6 (by decide) (by decide)) (by decide) (fun h5 => ?_) (fun h => False.elim (by omega))
  refine qr_aload_n 58 rfl rfl rfl ?_
  refine qr_iload 60 rfl rfl rfl ?_
  refine qr_iload 62 rfl rfl rfl ?_
  refine qr_iload_n 63 rfl rfl rfl ?_
  refine qr_iload 65 rfl rfl rfl ?_
  refine qr_iload 67 rfl rfl rfl ?_
  refine qr_iload 69 rfl rfl rfl ?_
  refine qr_iconst 70 rfl rfl ?_
  refine qr_iadd 71 rfl rfl ?_
  have hs6 : (-2147483648) ≤ σ 42 1 ∧ σ 42 1 ≤ 2147483647 := hI.1 42 1
  refine qr_callN 74 rfl rfl rfl (sf_153_42eb2_0_0 (d := d + 0) hI r4 r5 (by omega) (by omega)) ?_
  rintro _ _ ⟨σ11, α12, rfl, hI13, hG14, hw10, v7, rfl, hv7, hx8, hx9⟩
  have hF15 : qFr [(42, 1)] [43] σ α σ11 α12 := qFr_t hF0 hG14 (by decide) (by decide)
  have hs16 : (-2147483648) ≤ σ11 42 1 ∧ σ11 42 1 ≤ 2147483647 := hI13.1 42 1
  show qr_W (qe L xs vb) (d + 7) qx_e152 _ (74, _, [.int (qz v7)], qw σ11 α12 κ ρ, 0, 0)
  refine qr_retI rfl rfl (by decide) (by decide) ?_
  exact ⟨_, _, rfl, hI13, hF15, (by have hw : σ11 42 1 = (σ11 42 1) := rfl; omega), v7, rfl, hv7, hx8, hx9⟩

set_option maxHeartbeats 4000000 in
set_option maxRecDepth 20000 in
/-- OneRoof$Acts.run -/
theorem sf_151_42er0_3 {L : Nat} {xs : Nat → Int} {vb : Bool} {d : Nat} {σ α : Nat → Nat → Int} {κ : Nat → Option Nat} {ρ : Nat} {x3 : Int} {x4 : Int} {x5 : Int} (hI : qI σ α κ ρ) (r3 : (-2147483648) ≤ x3 ∧ x3 ≤ 2147483647) (r4 : (-2147483648) ≤ x4 ∧ x4 ≤ 2147483647) (r5 : 0 ≤ x5 ∧ x5 ≤ 37) (p0 : 0 ≤ σ 42 1 ∧ σ 42 1 ≤ 20) : qm_T (qe L xs vb) (d + 9) 151 [.ref 42, .int (qz 0), .int (qz 3), .int (qz x3), .int (qz x4), .int (qz x5)] (qw σ α κ ρ) (fun r w' => ∃ σ' α', w' = qw σ' α' κ ρ ∧ qI σ' α' κ ρ ∧ qFr [(42, 1)] [43] σ α σ' α' ∧ σ' 42 1 = σ 42 1 + 4 ∧ ∃ v : Int, r = some (.int (qz v)) ∧ ((-2147483648) ≤ v ∧ v ≤ 2147483647) ∧ v = qac_s (qac_m (qac_a x3 x4) 2) (qac_x 1 x4) ∧ α' 43 = qac_t [2, 10, 1, 11] (α 43) (σ 42 1)) := by
  refine qr_start (d := d + 8) qv_e151 (Nat.le_of_ble_eq_true rfl) ?_
  show qr_W (qe L xs vb) (d + 8) qx_e151 _ (0, [(0, .ref 42), (1, .int (qz 0)), (2, .int (qz 3)), (3, .int (qz x3)), (4, .int (qz x4)), (5, .int (qz x5))], [], _, 0, 0)
  have hF0 := qFr_rf [(42, 1)] [43] σ α
  have hz42_1 : (-2147483648) ≤ σ 42 1 ∧ σ 42 1 ≤ 2147483647 := hI.1 42 1
  refine qr_aload_n 1 rfl rfl rfl ?_
  refine qr_iload_n 2 rfl rfl rfl ?_
  refine qr_iload_n 3 rfl rfl rfl ?_
  refine qr_iload_n 4 rfl rfl rfl ?_
  refine qr_iload_n 5 rfl rfl rfl ?_
  refine qr_iload 7 rfl rfl rfl ?_
  refine qr_iload 9 rfl rfl rfl ?_
  have hs1 : (-2147483648) ≤ σ 42 1 ∧ σ 42 1 ≤ 2147483647 := hI.1 42 1
  refine qr_callN 12 rfl rfl rfl (sf_152_42ef0_0_3 (d := d + 0) hI r3 r4 r5 (by omega)) ?_
  rintro _ _ ⟨σ6, α7, rfl, hI8, hG9, hw5, v2, rfl, hv2, hx3, hx4⟩
  have hF10 : qFr [(42, 1)] [43] σ α σ6 α7 := qFr_t hF0 hG9 (by decide) (by decide)
  have hs11 : (-2147483648) ≤ σ6 42 1 ∧ σ6 42 1 ≤ 2147483647 := hI8.1 42 1
  show qr_W (qe L xs vb) (d + 8) qx_e151 _ (12, _, [.int (qz v2)], qw σ6 α7 κ ρ, 0, 0)
  refine qr_retI rfl rfl (by decide) (by decide) ?_
  exact ⟨_, _, rfl, hI8, hF10, (by have hw : σ6 42 1 = (σ6 42 1) := rfl; omega), v2, rfl, hv2, hx3, hx4⟩

set_option maxHeartbeats 4000000 in
set_option maxRecDepth 20000 in
/-- OneRoof$Acts.start -/
theorem sf_150_42es0_3 {L : Nat} {xs : Nat → Int} {vb : Bool} {d : Nat} {σ α : Nat → Nat → Int} {κ : Nat → Option Nat} {ρ : Nat} {x3 : Int} {x4 : Int} (hI : qI σ α κ ρ) (r3 : (-2147483648) ≤ x3 ∧ x3 ≤ 2147483647) (r4 : (-2147483648) ≤ x4 ∧ x4 ≤ 2147483647) (p0 : 0 ≤ σ 42 1 ∧ σ 42 1 ≤ 20) : qm_T (qe L xs vb) (d + 10) 150 [.ref 42, .int (qz 0), .int (qz 3), .int (qz x3), .int (qz x4)] (qw σ α κ ρ) (fun r w' => ∃ σ' α', w' = qw σ' α' κ ρ ∧ qI σ' α' κ ρ ∧ qFr [(42, 1)] [43] σ α σ' α' ∧ σ' 42 1 = σ 42 1 + 4 ∧ ∃ v : Int, r = some (.int (qz v)) ∧ ((-2147483648) ≤ v ∧ v ≤ 2147483647) ∧ v = qac_s (qac_m (qac_a x3 x4) 2) (qac_x 1 x4) ∧ α' 43 = qac_t [2, 10, 1, 11] (α 43) (σ 42 1)) := by
  refine qr_start (d := d + 9) qv_e150 (Nat.le_of_ble_eq_true rfl) ?_
  show qr_W (qe L xs vb) (d + 9) qx_e150 _ (0, [(0, .ref 42), (1, .int (qz 0)), (2, .int (qz 3)), (3, .int (qz x3)), (4, .int (qz x4))], [], _, 0, 0)
  have hF0 := qFr_rf [(42, 1)] [43] σ α
  have hz42_1 : (-2147483648) ≤ σ 42 1 ∧ σ 42 1 ≤ 2147483647 := hI.1 42 1
  refine qr_aload_n 1 rfl rfl rfl ?_
  refine qr_iload_n 2 rfl rfl rfl ?_
  refine qr_iload_n 3 rfl rfl rfl ?_
  refine qr_iload_n 4 rfl rfl rfl ?_
  refine qr_iload 6 rfl rfl rfl ?_
  refine qr_iconst 7 rfl rfl ?_
  have hs1 : (-2147483648) ≤ σ 42 1 ∧ σ 42 1 ≤ 2147483647 := hI.1 42 1
  refine qr_callN 10 rfl rfl rfl (sf_151_42er0_3 (d := d + 0) hI r3 r4 (by decide) (by omega)) ?_
  rintro _ _ ⟨σ6, α7, rfl, hI8, hG9, hw5, v2, rfl, hv2, hx3, hx4⟩
  have hF10 : qFr [(42, 1)] [43] σ α σ6 α7 := qFr_t hF0 hG9 (by decide) (by decide)
  have hs11 : (-2147483648) ≤ σ6 42 1 ∧ σ6 42 1 ≤ 2147483647 := hI8.1 42 1
  show qr_W (qe L xs vb) (d + 9) qx_e150 _ (10, _, [.int (qz v2)], qw σ6 α7 κ ρ, 0, 0)
  refine qr_retI rfl rfl (by decide) (by decide) ?_
  exact ⟨_, _, rfl, hI8, hF10, (by have hw : σ6 42 1 = (σ6 42 1) := rfl; omega), v2, rfl, hv2, hx3, hx4⟩

set_option maxHeartbeats 4000000 in
set_option maxRecDepth 20000 in
/-- OneRoof$Acts.begin -/
theorem sf_153_42eb1_0_1 {L : Nat} {xs : Nat → Int} {vb : Bool} {d : Nat} {σ α : Nat → Nat → Int} {κ : Nat → Option Nat} {ρ : Nat} {x4 : Int} {x5 : Int} {x6 : Int} (hI : qI σ α κ ρ) (r4 : (-2147483648) ≤ x4 ∧ x4 ≤ 2147483647) (r5 : (-2147483648) ≤ x5 ∧ x5 ≤ 2147483647) (r6 : 0 ≤ x6 ∧ x6 ≤ 40) (p0 : 0 ≤ σ 42 1 ∧ σ 42 1 ≤ 23) : qm_T (qe L xs vb) (d + 1) 153 [.ref 42, .int (qz 1), .int (qz 0), .int (qz 1), .int (qz x4), .int (qz x5), .int (qz x6)] (qw σ α κ ρ) (fun r w' => ∃ σ' α', w' = qw σ' α' κ ρ ∧ qI σ' α' κ ρ ∧ qFr [(42, 1)] [43] σ α σ' α' ∧ σ' 42 1 = σ 42 1 + 1 ∧ ∃ v : Int, r = some (.int (qz v)) ∧ ((-2147483648) ≤ v ∧ v ≤ 2147483647) ∧ v = qac_a x4 x5 ∧ α' 43 = qac_t [1] (α 43) (σ 42 1)) := by
  refine qr_start (d := d + 0) qv_e153 (Nat.le_of_ble_eq_true rfl) ?_
  show qr_W (qe L xs vb) (d + 0) qx_e153 _ (0, [(0, .ref 42), (1, .int (qz 1)), (2, .int (qz 0)), (3, .int (qz 1)), (4, .int (qz x4)), (5, .int (qz x5)), (6, .int (qz x6))], [], _, 0, 0)
  have hF0 := qFr_rf [(42, 1)] [43] σ α
  have hz42_1 : (-2147483648) ≤ σ 42 1 ∧ σ 42 1 ≤ 2147483647 := hI.1 42 1
  refine qr_aload_n 1 rfl rfl rfl ?_
  refine qr_get 4 rfl rfl rfl (by decide) rfl ?_
  refine qr_aload_n 5 rfl rfl rfl ?_
  refine qr_get 8 rfl rfl rfl (by decide) rfl ?_
  refine qr_alen 9 rfl rfl (by first | exact Or.inl (by decide) | exact Or.inr (Or.inl rfl) | exact Or.inr (Or.inr (Or.inl rfl)) | exact Or.inr (Or.inr (Or.inr (Or.inl rfl)))) rfl ?_
  refine qy_v 24 rfl ?_
  refine qr_icmp_ge 22 12 rfl rfl rfl hz42_1 (by decide) (fun h => False.elim (by omega)) (fun h1 => ?_)
  refine qr_aload_n 13 rfl rfl rfl ?_
  refine qr_get 16 rfl rfl rfl (by decide) rfl ?_
  refine qr_aload_n 17 rfl rfl rfl ?_
  refine qr_get 20 rfl rfl rfl (by decide) rfl ?_
  refine qr_iload_n 21 rfl rfl rfl ?_
  refine qr_iastore 22 rfl (by decide) rfl (by omega) (by decide) rfl ?_
  refine qy_wA (qw_r α 43 (qzu (α 43) ((σ 42 1) : Int).toNat 1)) rfl (fun α2 e3 => ?_)
  have hI4 : qI σ α2 κ ρ := by rw [e3]; exact qI_r hI 43 _ rfl (show (-2147483648) ≤ 1 ∧ 1 ≤ 2147483647 by omega)
  have hF5 : qFr [(42, 1)] [43] σ α σ α2 := by rw [e3]; exact qFr_r hF0 43 _ (by decide)
  refine qr_aload_n 23 rfl rfl rfl ?_
  refine qr_dup 24 rfl rfl rfl ?_
  refine qr_get 27 rfl rfl rfl (by decide) rfl ?_
  refine qr_iconst 28 rfl rfl ?_
  refine qr_iadd 29 rfl rfl ?_
  refine qr_put 32 rfl (by decide) rfl (Nat.le_of_ble_eq_true rfl) (Nat.le_of_ble_eq_true rfl) (Or.inl rfl) (qr_fitI rfl _) rfl ?_
  refine qy_wS (qw_s σ 42 1 ((σ 42 1) + 1)) rfl (fun σ6 e7 => ?_)
  have hI8 : qI σ6 α2 κ ρ := by rw [e7]; exact qI_s hI4 42 1 rfl (show (-2147483648) ≤ ((σ 42 1) + 1) ∧ ((σ 42 1) + 1) ≤ 2147483647 by omega)
  have hF9 : qFr [(42, 1)] [43] σ α σ6 α2 := by rw [e7]; exact qFr_s hF5 42 1 _ (by decide)
  refine qr_getst 35 rfl rfl ?_
  refine qr_iload_n 36 rfl rfl rfl ?_
  refine qr_iaload 37 rfl rfl (by decide) (by decide) rfl ?_
  refine qy_v (-1) (by decide) ?_
  refine qr_istore _ 39 rfl (by decide) rfl rfl ?_
  refine qr_iload_n 40 rfl rfl rfl ?_
  refine qr_look (off := 108) 148 rfl (by omega) (by decide) (by decide) rfl ?_
  refine qr_iload 150 rfl rfl rfl ?_
  refine qr_iload 152 rfl rfl rfl ?_
  refine qr_iadd 153 rfl rfl ?_
  refine qy_canE (fun v10 hv10 hev10 => ?_)
  refine qr_retI rfl rfl (by decide) (by decide) ?_
  exact ⟨_, _, rfl, hI8, hF9, (by have hw : σ6 42 1 = ((σ 42 1) + 1) := (congrFun (congrFun e7 42) 1).trans rfl; omega), v10, rfl, hv10, (qac_v hev10 (by omega)), (((congrFun e3 43).trans (qw_r_eq.trans (congrArg (fun f => qzu f ((σ 42 1) : Int).toNat 1) rfl))))⟩

set_option maxHeartbeats 4000000 in
set_option maxRecDepth 20000 in
/-- OneRoof$Acts.runFrom -/
theorem sf_152_42ef0_1_0 {L : Nat} {xs : Nat → Int} {vb : Bool} {d : Nat} {σ α : Nat → Nat → Int} {κ : Nat → Option Nat} {ρ : Nat} {x4 : Int} {x5 : Int} {x6 : Int} (hI : qI σ α κ ρ) (r4 : (-2147483648) ≤ x4 ∧ x4 ≤ 2147483647) (r5 : (-2147483648) ≤ x5 ∧ x5 ≤ 2147483647) (r6 : 0 ≤ x6 ∧ x6 ≤ 39) (p0 : 0 ≤ σ 42 1 ∧ σ 42 1 ≤ 23) : qm_T (qe L xs vb) (d + 2) 152 [.ref 42, .int (qz 0), .int (qz 1), .int (qz 0), .int (qz x4), .int (qz x5), .int (qz x6)] (qw σ α κ ρ) (fun r w' => ∃ σ' α', w' = qw σ' α' κ ρ ∧ qI σ' α' κ ρ ∧ qFr [(42, 1)] [43] σ α σ' α' ∧ σ' 42 1 = σ 42 1 + 1 ∧ ∃ v : Int, r = some (.int (qz v)) ∧ ((-2147483648) ≤ v ∧ v ≤ 2147483647) ∧ v = qac_a x4 x5 ∧ α' 43 = qac_t [1] (α 43) (σ 42 1)) := by
  refine qr_start (d := d + 1) qv_e152 (Nat.le_of_ble_eq_true rfl) ?_
  show qr_W (qe L xs vb) (d + 1) qx_e152 _ (0, [(0, .ref 42), (1, .int (qz 0)), (2, .int (qz 1)), (3, .int (qz 0)), (4, .int (qz x4)), (5, .int (qz x5)), (6, .int (qz x6))], [], _, 0, 0)
  have hF0 := qFr_rf [(42, 1)] [43] σ α
  have hz42_1 : (-2147483648) ≤ σ 42 1 ∧ σ 42 1 ≤ 2147483647 := hI.1 42 1
  refine qr_iload_n 1 rfl rfl rfl ?_
  refine qr_istore _ 3 rfl (by decide) rfl rfl ?_
  refine qr_iconst 4 rfl rfl ?_
  refine qr_istore _ 6 rfl (by decide) rfl rfl ?_
  refine qr_iload 8 rfl rfl rfl ?_
  refine qr_getst 11 rfl rfl ?_
  refine qr_alen 12 rfl rfl (by first | exact Or.inl (by decide) | exact Or.inr (Or.inl rfl) | exact Or.inr (Or.inr (Or.inl rfl)) | exact Or.inr (Or.inr (Or.inr (Or.inl rfl)))) rfl ?_
  refine qy_v 7 rfl ?_
  refine qr_icmp_ge 89 15 rfl rfl rfl (by decide) (by decide) (fun h => False.elim (by omega)) (fun h1 => ?_)
  refine qr_iload 17 rfl rfl rfl ?_
  refine qr_if_lt 89 20 rfl rfl rfl (by decide) (fun h => False.elim (by omega)) (fun h2 => ?_)
  refine qr_iload 22 rfl rfl rfl ?_
  refine qr_getst 25 rfl rfl ?_
  refine qr_alen 26 rfl rfl (by first | exact Or.inl (by decide) | exact Or.inr (Or.inl rfl) | exact Or.inr (Or.inr (Or.inl rfl)) | exact Or.inr (Or.inr (Or.inr (Or.inl rfl)))) rfl ?_
  refine qy_v 7 rfl ?_
  refine qr_icmp_ge 89 29 rfl rfl rfl (by decide) (by decide) (fun h => False.elim (by omega)) (fun h3 => ?_)
  refine qr_getst 32 rfl rfl ?_
  refine qr_iload 34 rfl rfl rfl ?_
  refine qr_iconst 35 rfl rfl ?_
  refine qr_imul 36 rfl rfl ?_
  refine qy_v 0 rfl ?_
  refine qr_iload_n 37 rfl rfl rfl ?_
  refine qr_iadd 38 rfl rfl ?_
  refine qy_v 0 rfl ?_
  refine qr_iaload 39 rfl rfl (by decide) (by decide) rfl ?_
  refine qy_v 1 (by decide) ?_
  refine qr_istore _ 41 rfl (by decide) rfl rfl ?_
  refine qr_iload 43 rfl rfl rfl ?_
  refine qr_if_eq 75 46 rfl rfl rfl (by decide) (fun h => False.elim (by omega)) (fun h4 => ?_)
  refine qr_iload 48 rfl rfl rfl ?_
  refine qr_bipush 50 rfl (by decide) rfl ?_
  refine qr_icmp_le 57 53 rfl rfl rfl (qrg r6 (by decide) (by decide)) (by decide) (fun h5 => ?_) (fun h => False.elim (by omega))
  refine qr_aload_n 58 rfl rfl rfl ?_
  refine qr_iload 60 rfl rfl rfl ?_
  refine qr_iload 62 rfl rfl rfl ?_
  refine qr_iload_n 63 rfl rfl rfl ?_
  refine qr_iload 65 rfl rfl rfl ?_
  refine qr_iload 67 rfl rfl rfl ?_
  refine qr_iload 69 rfl rfl rfl ?_
  refine qr_iconst 70 rfl rfl ?_
  refine qr_iadd 71 rfl rfl ?_
  have hs6 : (-2147483648) ≤ σ 42 1 ∧ σ 42 1 ≤ 2147483647 := hI.1 42 1
  refine qr_callN 74 rfl rfl rfl (sf_153_42eb1_0_1 (d := d + 0) hI r4 r5 (by omega) (by omega)) ?_
  rintro _ _ ⟨σ11, α12, rfl, hI13, hG14, hw10, v7, rfl, hv7, hx8, hx9⟩
  have hF15 : qFr [(42, 1)] [43] σ α σ11 α12 := qFr_t hF0 hG14 (by decide) (by decide)
  have hs16 : (-2147483648) ≤ σ11 42 1 ∧ σ11 42 1 ≤ 2147483647 := hI13.1 42 1
  show qr_W (qe L xs vb) (d + 1) qx_e152 _ (74, _, [.int (qz v7)], qw σ11 α12 κ ρ, 0, 0)
  refine qr_retI rfl rfl (by decide) (by decide) ?_
  exact ⟨_, _, rfl, hI13, hF15, (by have hw : σ11 42 1 = (σ11 42 1) := rfl; omega), v7, rfl, hv7, hx8, hx9⟩

set_option maxHeartbeats 4000000 in
set_option maxRecDepth 20000 in
/-- OneRoof$Acts.begin -/
theorem sf_153_42eb20_1_1 {L : Nat} {xs : Nat → Int} {vb : Bool} {d : Nat} {σ α : Nat → Nat → Int} {κ : Nat → Option Nat} {ρ : Nat} {x4 : Int} {x5 : Int} {x6 : Int} (hI : qI σ α κ ρ) (r4 : (-2147483648) ≤ x4 ∧ x4 ≤ 2147483647) (r5 : (-2147483648) ≤ x5 ∧ x5 ≤ 2147483647) (r6 : 0 ≤ x6 ∧ x6 ≤ 39) (p0 : 0 ≤ σ 42 1 ∧ σ 42 1 ≤ 22) : qm_T (qe L xs vb) (d + 3) 153 [.ref 42, .int (qz 20), .int (qz 1), .int (qz 1), .int (qz x4), .int (qz x5), .int (qz x6)] (qw σ α κ ρ) (fun r w' => ∃ σ' α', w' = qw σ' α' κ ρ ∧ qI σ' α' κ ρ ∧ qFr [(42, 1)] [43] σ α σ' α' ∧ σ' 42 1 = σ 42 1 + 2 ∧ ∃ v : Int, r = some (.int (qz v)) ∧ ((-2147483648) ≤ v ∧ v ≤ 2147483647) ∧ v = qac_a (qac_a x4 x5) 3 ∧ α' 43 = qac_t [20, 1] (α 43) (σ 42 1)) := by
  refine qr_start (d := d + 2) qv_e153 (Nat.le_of_ble_eq_true rfl) ?_
  show qr_W (qe L xs vb) (d + 2) qx_e153 _ (0, [(0, .ref 42), (1, .int (qz 20)), (2, .int (qz 1)), (3, .int (qz 1)), (4, .int (qz x4)), (5, .int (qz x5)), (6, .int (qz x6))], [], _, 0, 0)
  have hF0 := qFr_rf [(42, 1)] [43] σ α
  have hz42_1 : (-2147483648) ≤ σ 42 1 ∧ σ 42 1 ≤ 2147483647 := hI.1 42 1
  refine qr_aload_n 1 rfl rfl rfl ?_
  refine qr_get 4 rfl rfl rfl (by decide) rfl ?_
  refine qr_aload_n 5 rfl rfl rfl ?_
  refine qr_get 8 rfl rfl rfl (by decide) rfl ?_
  refine qr_alen 9 rfl rfl (by first | exact Or.inl (by decide) | exact Or.inr (Or.inl rfl) | exact Or.inr (Or.inr (Or.inl rfl)) | exact Or.inr (Or.inr (Or.inr (Or.inl rfl)))) rfl ?_
  refine qy_v 24 rfl ?_
  refine qr_icmp_ge 22 12 rfl rfl rfl hz42_1 (by decide) (fun h => False.elim (by omega)) (fun h1 => ?_)
  refine qr_aload_n 13 rfl rfl rfl ?_
  refine qr_get 16 rfl rfl rfl (by decide) rfl ?_
  refine qr_aload_n 17 rfl rfl rfl ?_
  refine qr_get 20 rfl rfl rfl (by decide) rfl ?_
  refine qr_iload_n 21 rfl rfl rfl ?_
  refine qr_iastore 22 rfl (by decide) rfl (by omega) (by decide) rfl ?_
  refine qy_wA (qw_r α 43 (qzu (α 43) ((σ 42 1) : Int).toNat 20)) rfl (fun α2 e3 => ?_)
  have hI4 : qI σ α2 κ ρ := by rw [e3]; exact qI_r hI 43 _ rfl (show (-2147483648) ≤ 20 ∧ 20 ≤ 2147483647 by omega)
  have hF5 : qFr [(42, 1)] [43] σ α σ α2 := by rw [e3]; exact qFr_r hF0 43 _ (by decide)
  refine qr_aload_n 23 rfl rfl rfl ?_
  refine qr_dup 24 rfl rfl rfl ?_
  refine qr_get 27 rfl rfl rfl (by decide) rfl ?_
  refine qr_iconst 28 rfl rfl ?_
  refine qr_iadd 29 rfl rfl ?_
  refine qr_put 32 rfl (by decide) rfl (Nat.le_of_ble_eq_true rfl) (Nat.le_of_ble_eq_true rfl) (Or.inl rfl) (qr_fitI rfl _) rfl ?_
  refine qy_wS (qw_s σ 42 1 ((σ 42 1) + 1)) rfl (fun σ6 e7 => ?_)
  have hI8 : qI σ6 α2 κ ρ := by rw [e7]; exact qI_s hI4 42 1 rfl (show (-2147483648) ≤ ((σ 42 1) + 1) ∧ ((σ 42 1) + 1) ≤ 2147483647 by omega)
  have hF9 : qFr [(42, 1)] [43] σ α σ6 α2 := by rw [e7]; exact qFr_s hF5 42 1 _ (by decide)
  refine qr_getst 35 rfl rfl ?_
  refine qr_iload_n 36 rfl rfl rfl ?_
  refine qr_iaload 37 rfl rfl (by decide) (by decide) rfl ?_
  refine qy_v 0 (by decide) ?_
  refine qr_istore _ 39 rfl (by decide) rfl rfl ?_
  refine qr_iload_n 40 rfl rfl rfl ?_
  refine qr_look (off := 160) 200 rfl (by omega) (by decide) (by decide) rfl ?_
  refine qr_aload_n 201 rfl rfl rfl ?_
  refine qr_iload 203 rfl rfl rfl ?_
  refine qr_iload_n 204 rfl rfl rfl ?_
  refine qr_iconst 205 rfl rfl ?_
  refine qr_iload 207 rfl rfl rfl ?_
  refine qr_iload 209 rfl rfl rfl ?_
  refine qr_iload 211 rfl rfl rfl ?_
  have hr10 : σ6 42 1 = ((σ 42 1) + 1) := (congrFun (congrFun e7 42) 1).trans rfl
  have hs11 : (-2147483648) ≤ σ6 42 1 ∧ σ6 42 1 ≤ 2147483647 := hI8.1 42 1
  have hs12 : σ6 42 1 = ((σ 42 1) + 1) := (congrFun (congrFun e7 42) 1).trans rfl
  refine qr_callN 214 rfl rfl rfl (sf_152_42ef0_1_0 (d := d + 0) hI8 r4 r5 r6 (by omega)) ?_
  rintro _ _ ⟨σ17, α18, rfl, hI19, hG20, hw16, v13, rfl, hv13, hx14, hx15⟩
  have hF21 : qFr [(42, 1)] [43] σ α σ17 α18 := qFr_t hF9 hG20 (by decide) (by decide)
  have hs22 : (-2147483648) ≤ σ17 42 1 ∧ σ17 42 1 ≤ 2147483647 := hI19.1 42 1
  show qr_W (qe L xs vb) (d + 2) qx_e153 _ (214, _, [.int (qz v13)], qw σ17 α18 κ ρ, 0, 0)
  refine qr_iconst 215 rfl rfl ?_
  refine qr_iadd 216 rfl rfl ?_
  refine qy_canE (fun v23 hv23 hev23 => ?_)
  refine qr_retI rfl rfl (by decide) (by decide) ?_
  exact ⟨_, _, rfl, hI19, hF21, (by have hw : σ17 42 1 = (σ17 42 1) := rfl; omega), v23, rfl, hv23, ((qac_v hev23 (by omega)).trans (by rw [hx14]; rfl)), (by rw [hx15, show α2 43 = qzu (α 43) (σ 42 1 : Int).toNat 20 from ((congrFun e3 43).trans (qw_r_eq.trans (congrArg (fun f => qzu f ((σ 42 1) : Int).toNat 20) rfl))), show σ6 42 1 = σ 42 1 + 1 by omega]; rfl)⟩

set_option maxHeartbeats 4000000 in
set_option maxRecDepth 20000 in
/-- OneRoof$Acts.runFrom -/
theorem sf_152_42ef1_1_0 {L : Nat} {xs : Nat → Int} {vb : Bool} {d : Nat} {σ α : Nat → Nat → Int} {κ : Nat → Option Nat} {ρ : Nat} {x4 : Int} {x5 : Int} {x6 : Int} (hI : qI σ α κ ρ) (r4 : (-2147483648) ≤ x4 ∧ x4 ≤ 2147483647) (r5 : (-2147483648) ≤ x5 ∧ x5 ≤ 2147483647) (r6 : 0 ≤ x6 ∧ x6 ≤ 38) (p0 : 0 ≤ σ 42 1 ∧ σ 42 1 ≤ 22) : qm_T (qe L xs vb) (d + 4) 152 [.ref 42, .int (qz 1), .int (qz 1), .int (qz 0), .int (qz x4), .int (qz x5), .int (qz x6)] (qw σ α κ ρ) (fun r w' => ∃ σ' α', w' = qw σ' α' κ ρ ∧ qI σ' α' κ ρ ∧ qFr [(42, 1)] [43] σ α σ' α' ∧ σ' 42 1 = σ 42 1 + 2 ∧ ∃ v : Int, r = some (.int (qz v)) ∧ ((-2147483648) ≤ v ∧ v ≤ 2147483647) ∧ v = qac_a (qac_a x4 x5) 3 ∧ α' 43 = qac_t [20, 1] (α 43) (σ 42 1)) := by
  refine qr_start (d := d + 3) qv_e152 (Nat.le_of_ble_eq_true rfl) ?_
  show qr_W (qe L xs vb) (d + 3) qx_e152 _ (0, [(0, .ref 42), (1, .int (qz 1)), (2, .int (qz 1)), (3, .int (qz 0)), (4, .int (qz x4)), (5, .int (qz x5)), (6, .int (qz x6))], [], _, 0, 0)
  have hF0 := qFr_rf [(42, 1)] [43] σ α
  have hz42_1 : (-2147483648) ≤ σ 42 1 ∧ σ 42 1 ≤ 2147483647 := hI.1 42 1
  refine qr_iload_n 1 rfl rfl rfl ?_
  refine qr_istore _ 3 rfl (by decide) rfl rfl ?_
  refine qr_iconst 4 rfl rfl ?_
  refine qr_istore _ 6 rfl (by decide) rfl rfl ?_
  refine qr_iload 8 rfl rfl rfl ?_
  refine qr_getst 11 rfl rfl ?_
  refine qr_alen 12 rfl rfl (by first | exact Or.inl (by decide) | exact Or.inr (Or.inl rfl) | exact Or.inr (Or.inr (Or.inl rfl)) | exact Or.inr (Or.inr (Or.inr (Or.inl rfl)))) rfl ?_
  refine qy_v 7 rfl ?_
  refine qr_icmp_ge 89 15 rfl rfl rfl (by decide) (by decide) (fun h => False.elim (by omega)) (fun h1 => ?_)
  refine qr_iload 17 rfl rfl rfl ?_
  refine qr_if_lt 89 20 rfl rfl rfl (by decide) (fun h => False.elim (by omega)) (fun h2 => ?_)
  refine qr_iload 22 rfl rfl rfl ?_
  refine qr_getst 25 rfl rfl ?_
  refine qr_alen 26 rfl rfl (by first | exact Or.inl (by decide) | exact Or.inr (Or.inl rfl) | exact Or.inr (Or.inr (Or.inl rfl)) | exact Or.inr (Or.inr (Or.inr (Or.inl rfl)))) rfl ?_
  refine qy_v 7 rfl ?_
  refine qr_icmp_ge 89 29 rfl rfl rfl (by decide) (by decide) (fun h => False.elim (by omega)) (fun h3 => ?_)
  refine qr_getst 32 rfl rfl ?_
  refine qr_iload 34 rfl rfl rfl ?_
  refine qr_iconst 35 rfl rfl ?_
  refine qr_imul 36 rfl rfl ?_
  refine qy_v 4 rfl ?_
  refine qr_iload_n 37 rfl rfl rfl ?_
  refine qr_iadd 38 rfl rfl ?_
  refine qy_v 4 rfl ?_
  refine qr_iaload 39 rfl rfl (by decide) (by decide) rfl ?_
  refine qy_v 20 (by decide) ?_
  refine qr_istore _ 41 rfl (by decide) rfl rfl ?_
  refine qr_iload 43 rfl rfl rfl ?_
  refine qr_if_eq 75 46 rfl rfl rfl (by decide) (fun h => False.elim (by omega)) (fun h4 => ?_)
  refine qr_iload 48 rfl rfl rfl ?_
  refine qr_bipush 50 rfl (by decide) rfl ?_
  refine qr_icmp_le 57 53 rfl rfl rfl (qrg r6 (by decide) (by decide)) (by decide) (fun h5 => ?_) (fun h => False.elim (by omega))
  refine qr_aload_n 58 rfl rfl rfl ?_
  refine qr_iload 60 rfl rfl rfl ?_
  refine qr_iload 62 rfl rfl rfl ?_
  refine qr_iload_n 63 rfl rfl rfl ?_
  refine qr_iload 65 rfl rfl rfl ?_
  refine qr_iload 67 rfl rfl rfl ?_
  refine qr_iload 69 rfl rfl rfl ?_
  refine qr_iconst 70 rfl rfl ?_
  refine qr_iadd 71 rfl rfl ?_
  have hs6 : (-2147483648) ≤ σ 42 1 ∧ σ 42 1 ≤ 2147483647 := hI.1 42 1
  refine qr_callN 74 rfl rfl rfl (sf_153_42eb20_1_1 (d := d + 0) hI r4 r5 (by omega) (by omega)) ?_
  rintro _ _ ⟨σ11, α12, rfl, hI13, hG14, hw10, v7, rfl, hv7, hx8, hx9⟩
  have hF15 : qFr [(42, 1)] [43] σ α σ11 α12 := qFr_t hF0 hG14 (by decide) (by decide)
  have hs16 : (-2147483648) ≤ σ11 42 1 ∧ σ11 42 1 ≤ 2147483647 := hI13.1 42 1
  show qr_W (qe L xs vb) (d + 3) qx_e152 _ (74, _, [.int (qz v7)], qw σ11 α12 κ ρ, 0, 0)
  refine qr_retI rfl rfl (by decide) (by decide) ?_
  exact ⟨_, _, rfl, hI13, hF15, (by have hw : σ11 42 1 = (σ11 42 1) := rfl; omega), v7, rfl, hv7, hx8, hx9⟩

set_option maxHeartbeats 4000000 in
set_option maxRecDepth 20000 in
/-- OneRoof$Acts.run -/
theorem sf_151_42er1_0 {L : Nat} {xs : Nat → Int} {vb : Bool} {d : Nat} {σ α : Nat → Nat → Int} {κ : Nat → Option Nat} {ρ : Nat} {x3 : Int} {x4 : Int} {x5 : Int} (hI : qI σ α κ ρ) (r3 : (-2147483648) ≤ x3 ∧ x3 ≤ 2147483647) (r4 : (-2147483648) ≤ x4 ∧ x4 ≤ 2147483647) (r5 : 0 ≤ x5 ∧ x5 ≤ 38) (p0 : 0 ≤ σ 42 1 ∧ σ 42 1 ≤ 22) : qm_T (qe L xs vb) (d + 5) 151 [.ref 42, .int (qz 1), .int (qz 0), .int (qz x3), .int (qz x4), .int (qz x5)] (qw σ α κ ρ) (fun r w' => ∃ σ' α', w' = qw σ' α' κ ρ ∧ qI σ' α' κ ρ ∧ qFr [(42, 1)] [43] σ α σ' α' ∧ σ' 42 1 = σ 42 1 + 2 ∧ ∃ v : Int, r = some (.int (qz v)) ∧ ((-2147483648) ≤ v ∧ v ≤ 2147483647) ∧ v = qac_a (qac_a x3 x4) 3 ∧ α' 43 = qac_t [20, 1] (α 43) (σ 42 1)) := by
  refine qr_start (d := d + 4) qv_e151 (Nat.le_of_ble_eq_true rfl) ?_
  show qr_W (qe L xs vb) (d + 4) qx_e151 _ (0, [(0, .ref 42), (1, .int (qz 1)), (2, .int (qz 0)), (3, .int (qz x3)), (4, .int (qz x4)), (5, .int (qz x5))], [], _, 0, 0)
  have hF0 := qFr_rf [(42, 1)] [43] σ α
  have hz42_1 : (-2147483648) ≤ σ 42 1 ∧ σ 42 1 ≤ 2147483647 := hI.1 42 1
  refine qr_aload_n 1 rfl rfl rfl ?_
  refine qr_iload_n 2 rfl rfl rfl ?_
  refine qr_iload_n 3 rfl rfl rfl ?_
  refine qr_iload_n 4 rfl rfl rfl ?_
  refine qr_iload_n 5 rfl rfl rfl ?_
  refine qr_iload 7 rfl rfl rfl ?_
  refine qr_iload 9 rfl rfl rfl ?_
  have hs1 : (-2147483648) ≤ σ 42 1 ∧ σ 42 1 ≤ 2147483647 := hI.1 42 1
  refine qr_callN 12 rfl rfl rfl (sf_152_42ef1_1_0 (d := d + 0) hI r3 r4 r5 (by omega)) ?_
  rintro _ _ ⟨σ6, α7, rfl, hI8, hG9, hw5, v2, rfl, hv2, hx3, hx4⟩
  have hF10 : qFr [(42, 1)] [43] σ α σ6 α7 := qFr_t hF0 hG9 (by decide) (by decide)
  have hs11 : (-2147483648) ≤ σ6 42 1 ∧ σ6 42 1 ≤ 2147483647 := hI8.1 42 1
  show qr_W (qe L xs vb) (d + 4) qx_e151 _ (12, _, [.int (qz v2)], qw σ6 α7 κ ρ, 0, 0)
  refine qr_retI rfl rfl (by decide) (by decide) ?_
  exact ⟨_, _, rfl, hI8, hF10, (by have hw : σ6 42 1 = (σ6 42 1) := rfl; omega), v2, rfl, hv2, hx3, hx4⟩

set_option maxHeartbeats 4000000 in
set_option maxRecDepth 20000 in
/-- OneRoof$Acts.start -/
theorem sf_150_42es1_0 {L : Nat} {xs : Nat → Int} {vb : Bool} {d : Nat} {σ α : Nat → Nat → Int} {κ : Nat → Option Nat} {ρ : Nat} {x3 : Int} {x4 : Int} (hI : qI σ α κ ρ) (r3 : (-2147483648) ≤ x3 ∧ x3 ≤ 2147483647) (r4 : (-2147483648) ≤ x4 ∧ x4 ≤ 2147483647) (p0 : 0 ≤ σ 42 1 ∧ σ 42 1 ≤ 22) : qm_T (qe L xs vb) (d + 6) 150 [.ref 42, .int (qz 1), .int (qz 0), .int (qz x3), .int (qz x4)] (qw σ α κ ρ) (fun r w' => ∃ σ' α', w' = qw σ' α' κ ρ ∧ qI σ' α' κ ρ ∧ qFr [(42, 1)] [43] σ α σ' α' ∧ σ' 42 1 = σ 42 1 + 2 ∧ ∃ v : Int, r = some (.int (qz v)) ∧ ((-2147483648) ≤ v ∧ v ≤ 2147483647) ∧ v = qac_a (qac_a x3 x4) 3 ∧ α' 43 = qac_t [20, 1] (α 43) (σ 42 1)) := by
  refine qr_start (d := d + 5) qv_e150 (Nat.le_of_ble_eq_true rfl) ?_
  show qr_W (qe L xs vb) (d + 5) qx_e150 _ (0, [(0, .ref 42), (1, .int (qz 1)), (2, .int (qz 0)), (3, .int (qz x3)), (4, .int (qz x4))], [], _, 0, 0)
  have hF0 := qFr_rf [(42, 1)] [43] σ α
  have hz42_1 : (-2147483648) ≤ σ 42 1 ∧ σ 42 1 ≤ 2147483647 := hI.1 42 1
  refine qr_aload_n 1 rfl rfl rfl ?_
  refine qr_iload_n 2 rfl rfl rfl ?_
  refine qr_iload_n 3 rfl rfl rfl ?_
  refine qr_iload_n 4 rfl rfl rfl ?_
  refine qr_iload 6 rfl rfl rfl ?_
  refine qr_iconst 7 rfl rfl ?_
  have hs1 : (-2147483648) ≤ σ 42 1 ∧ σ 42 1 ≤ 2147483647 := hI.1 42 1
  refine qr_callN 10 rfl rfl rfl (sf_151_42er1_0 (d := d + 0) hI r3 r4 (by decide) (by omega)) ?_
  rintro _ _ ⟨σ6, α7, rfl, hI8, hG9, hw5, v2, rfl, hv2, hx3, hx4⟩
  have hF10 : qFr [(42, 1)] [43] σ α σ6 α7 := qFr_t hF0 hG9 (by decide) (by decide)
  have hs11 : (-2147483648) ≤ σ6 42 1 ∧ σ6 42 1 ≤ 2147483647 := hI8.1 42 1
  show qr_W (qe L xs vb) (d + 5) qx_e150 _ (10, _, [.int (qz v2)], qw σ6 α7 κ ρ, 0, 0)
  refine qr_retI rfl rfl (by decide) (by decide) ?_
  exact ⟨_, _, rfl, hI8, hF10, (by have hw : σ6 42 1 = (σ6 42 1) := rfl; omega), v2, rfl, hv2, hx3, hx4⟩

set_option maxHeartbeats 4000000 in
set_option maxRecDepth 20000 in
/-- OneRoof$Acts.begin -/
theorem sf_153_42eb10_0_1 {L : Nat} {xs : Nat → Int} {vb : Bool} {d : Nat} {σ α : Nat → Nat → Int} {κ : Nat → Option Nat} {ρ : Nat} {x4 : Int} {x5 : Int} {x6 : Int} (hI : qI σ α κ ρ) (r4 : (-2147483648) ≤ x4 ∧ x4 ≤ 2147483647) (r5 : (-2147483648) ≤ x5 ∧ x5 ≤ 2147483647) (r6 : 0 ≤ x6 ∧ x6 ≤ 38) (p0 : 0 ≤ σ 42 1 ∧ σ 42 1 ≤ 21) : qm_T (qe L xs vb) (d + 6) 153 [.ref 42, .int (qz 10), .int (qz 0), .int (qz 1), .int (qz x4), .int (qz x5), .int (qz x6)] (qw σ α κ ρ) (fun r w' => ∃ σ' α', w' = qw σ' α' κ ρ ∧ qI σ' α' κ ρ ∧ qFr [(42, 1)] [43] σ α σ' α' ∧ σ' 42 1 = σ 42 1 + 3 ∧ ∃ v : Int, r = some (.int (qz v)) ∧ ((-2147483648) ≤ v ∧ v ≤ 2147483647) ∧ v = qac_m (qac_a (qac_a x4 x5) 3) 2 ∧ α' 43 = qac_t [10, 20, 1] (α 43) (σ 42 1)) := by
  refine qr_start (d := d + 5) qv_e153 (Nat.le_of_ble_eq_true rfl) ?_
  show qr_W (qe L xs vb) (d + 5) qx_e153 _ (0, [(0, .ref 42), (1, .int (qz 10)), (2, .int (qz 0)), (3, .int (qz 1)), (4, .int (qz x4)), (5, .int (qz x5)), (6, .int (qz x6))], [], _, 0, 0)
  have hF0 := qFr_rf [(42, 1)] [43] σ α
  have hz42_1 : (-2147483648) ≤ σ 42 1 ∧ σ 42 1 ≤ 2147483647 := hI.1 42 1
  refine qr_aload_n 1 rfl rfl rfl ?_
  refine qr_get 4 rfl rfl rfl (by decide) rfl ?_
  refine qr_aload_n 5 rfl rfl rfl ?_
  refine qr_get 8 rfl rfl rfl (by decide) rfl ?_
  refine qr_alen 9 rfl rfl (by first | exact Or.inl (by decide) | exact Or.inr (Or.inl rfl) | exact Or.inr (Or.inr (Or.inl rfl)) | exact Or.inr (Or.inr (Or.inr (Or.inl rfl)))) rfl ?_
  refine qy_v 24 rfl ?_
  refine qr_icmp_ge 22 12 rfl rfl rfl hz42_1 (by decide) (fun h => False.elim (by omega)) (fun h1 => ?_)
  refine qr_aload_n 13 rfl rfl rfl ?_
  refine qr_get 16 rfl rfl rfl (by decide) rfl ?_
  refine qr_aload_n 17 rfl rfl rfl ?_
  refine qr_get 20 rfl rfl rfl (by decide) rfl ?_
  refine qr_iload_n 21 rfl rfl rfl ?_
  refine qr_iastore 22 rfl (by decide) rfl (by omega) (by decide) rfl ?_
  refine qy_wA (qw_r α 43 (qzu (α 43) ((σ 42 1) : Int).toNat 10)) rfl (fun α2 e3 => ?_)
  have hI4 : qI σ α2 κ ρ := by rw [e3]; exact qI_r hI 43 _ rfl (show (-2147483648) ≤ 10 ∧ 10 ≤ 2147483647 by omega)
  have hF5 : qFr [(42, 1)] [43] σ α σ α2 := by rw [e3]; exact qFr_r hF0 43 _ (by decide)
  refine qr_aload_n 23 rfl rfl rfl ?_
  refine qr_dup 24 rfl rfl rfl ?_
  refine qr_get 27 rfl rfl rfl (by decide) rfl ?_
  refine qr_iconst 28 rfl rfl ?_
  refine qr_iadd 29 rfl rfl ?_
  refine qr_put 32 rfl (by decide) rfl (Nat.le_of_ble_eq_true rfl) (Nat.le_of_ble_eq_true rfl) (Or.inl rfl) (qr_fitI rfl _) rfl ?_
  refine qy_wS (qw_s σ 42 1 ((σ 42 1) + 1)) rfl (fun σ6 e7 => ?_)
  have hI8 : qI σ6 α2 κ ρ := by rw [e7]; exact qI_s hI4 42 1 rfl (show (-2147483648) ≤ ((σ 42 1) + 1) ∧ ((σ 42 1) + 1) ≤ 2147483647 by omega)
  have hF9 : qFr [(42, 1)] [43] σ α σ6 α2 := by rw [e7]; exact qFr_s hF5 42 1 _ (by decide)
  refine qr_getst 35 rfl rfl ?_
  refine qr_iload_n 36 rfl rfl rfl ?_
  refine qr_iaload 37 rfl rfl (by decide) (by decide) rfl ?_
  refine qy_v (-1) (by decide) ?_
  refine qr_istore _ 39 rfl (by decide) rfl rfl ?_
  refine qr_iload_n 40 rfl rfl rfl ?_
  refine qr_look (off := 139) 179 rfl (by omega) (by decide) (by decide) rfl ?_
  refine qr_aload_n 180 rfl rfl rfl ?_
  refine qr_iload_n 181 rfl rfl rfl ?_
  refine qr_iconst 182 rfl rfl ?_
  refine qr_iload 184 rfl rfl rfl ?_
  refine qr_iload 186 rfl rfl rfl ?_
  refine qr_iload 188 rfl rfl rfl ?_
  have hr10 : σ6 42 1 = ((σ 42 1) + 1) := (congrFun (congrFun e7 42) 1).trans rfl
  have hs11 : (-2147483648) ≤ σ6 42 1 ∧ σ6 42 1 ≤ 2147483647 := hI8.1 42 1
  have hs12 : σ6 42 1 = ((σ 42 1) + 1) := (congrFun (congrFun e7 42) 1).trans rfl
  refine qr_callN 191 rfl rfl rfl (sf_151_42er1_0 (d := d + 0) hI8 r4 r5 r6 (by omega)) ?_
  rintro _ _ ⟨σ17, α18, rfl, hI19, hG20, hw16, v13, rfl, hv13, hx14, hx15⟩
  have hF21 : qFr [(42, 1)] [43] σ α σ17 α18 := qFr_t hF9 hG20 (by decide) (by decide)
  have hs22 : (-2147483648) ≤ σ17 42 1 ∧ σ17 42 1 ≤ 2147483647 := hI19.1 42 1
  show qr_W (qe L xs vb) (d + 5) qx_e153 _ (191, _, [.int (qz v13)], qw σ17 α18 κ ρ, 0, 0)
  refine qr_iconst 192 rfl rfl ?_
  refine qr_imul 193 rfl rfl ?_
  refine qy_canE (fun v23 hv23 hev23 => ?_)
  refine qr_retI rfl rfl (by decide) (by decide) ?_
  exact ⟨_, _, rfl, hI19, hF21, (by have hw : σ17 42 1 = (σ17 42 1) := rfl; omega), v23, rfl, hv23, ((qac_v hev23 (by omega)).trans (by rw [hx14]; rfl)), (by rw [hx15, show α2 43 = qzu (α 43) (σ 42 1 : Int).toNat 10 from ((congrFun e3 43).trans (qw_r_eq.trans (congrArg (fun f => qzu f ((σ 42 1) : Int).toNat 10) rfl))), show σ6 42 1 = σ 42 1 + 1 by omega]; rfl)⟩

set_option maxHeartbeats 4000000 in
set_option maxRecDepth 20000 in
/-- OneRoof$Acts.runFrom -/
theorem sf_152_42ef1_1_1 {L : Nat} {xs : Nat → Int} {vb : Bool} {d : Nat} {σ α : Nat → Nat → Int} {κ : Nat → Option Nat} {ρ : Nat} {x4 : Int} {x5 : Int} {x6 : Int} (hI : qI σ α κ ρ) (r4 : (-2147483648) ≤ x4 ∧ x4 ≤ 2147483647) (r5 : (-2147483648) ≤ x5 ∧ x5 ≤ 2147483647) (r6 : 0 ≤ x6 ∧ x6 ≤ 37) (p0 : 0 ≤ σ 42 1 ∧ σ 42 1 ≤ 21) : qm_T (qe L xs vb) (d + 7) 152 [.ref 42, .int (qz 1), .int (qz 1), .int (qz 1), .int (qz x4), .int (qz x5), .int (qz x6)] (qw σ α κ ρ) (fun r w' => ∃ σ' α', w' = qw σ' α' κ ρ ∧ qI σ' α' κ ρ ∧ qFr [(42, 1)] [43] σ α σ' α' ∧ σ' 42 1 = σ 42 1 + 3 ∧ ∃ v : Int, r = some (.int (qz v)) ∧ ((-2147483648) ≤ v ∧ v ≤ 2147483647) ∧ v = qac_m (qac_a (qac_a x4 x5) 3) 2 ∧ α' 43 = qac_t [10, 20, 1] (α 43) (σ 42 1)) := by
  refine qr_start (d := d + 6) qv_e152 (Nat.le_of_ble_eq_true rfl) ?_
  show qr_W (qe L xs vb) (d + 6) qx_e152 _ (0, [(0, .ref 42), (1, .int (qz 1)), (2, .int (qz 1)), (3, .int (qz 1)), (4, .int (qz x4)), (5, .int (qz x5)), (6, .int (qz x6))], [], _, 0, 0)
  have hF0 := qFr_rf [(42, 1)] [43] σ α
  have hz42_1 : (-2147483648) ≤ σ 42 1 ∧ σ 42 1 ≤ 2147483647 := hI.1 42 1
  refine qr_iload_n 1 rfl rfl rfl ?_
  refine qr_istore _ 3 rfl (by decide) rfl rfl ?_
  refine qr_iconst 4 rfl rfl ?_
  refine qr_istore _ 6 rfl (by decide) rfl rfl ?_
  refine qr_iload 8 rfl rfl rfl ?_
  refine qr_getst 11 rfl rfl ?_
  refine qr_alen 12 rfl rfl (by first | exact Or.inl (by decide) | exact Or.inr (Or.inl rfl) | exact Or.inr (Or.inr (Or.inl rfl)) | exact Or.inr (Or.inr (Or.inr (Or.inl rfl)))) rfl ?_
  refine qy_v 7 rfl ?_
  refine qr_icmp_ge 89 15 rfl rfl rfl (by decide) (by decide) (fun h => False.elim (by omega)) (fun h1 => ?_)
  refine qr_iload 17 rfl rfl rfl ?_
  refine qr_if_lt 89 20 rfl rfl rfl (by decide) (fun h => False.elim (by omega)) (fun h2 => ?_)
  refine qr_iload 22 rfl rfl rfl ?_
  refine qr_getst 25 rfl rfl ?_
  refine qr_alen 26 rfl rfl (by first | exact Or.inl (by decide) | exact Or.inr (Or.inl rfl) | exact Or.inr (Or.inr (Or.inl rfl)) | exact Or.inr (Or.inr (Or.inr (Or.inl rfl)))) rfl ?_
  refine qy_v 7 rfl ?_
  refine qr_icmp_ge 89 29 rfl rfl rfl (by decide) (by decide) (fun h => False.elim (by omega)) (fun h3 => ?_)
  refine qr_getst 32 rfl rfl ?_
  refine qr_iload 34 rfl rfl rfl ?_
  refine qr_iconst 35 rfl rfl ?_
  refine qr_imul 36 rfl rfl ?_
  refine qy_v 4 rfl ?_
  refine qr_iload_n 37 rfl rfl rfl ?_
  refine qr_iadd 38 rfl rfl ?_
  refine qy_v 5 rfl ?_
  refine qr_iaload 39 rfl rfl (by decide) (by decide) rfl ?_
  refine qy_v 0 (by decide) ?_
  refine qr_istore _ 41 rfl (by decide) rfl rfl ?_
  refine qr_iload 43 rfl rfl rfl ?_
  refine qr_if_eq 75 46 rfl rfl rfl (by decide) (fun h4 => ?_) (fun h => False.elim (by omega))
  refine qr_getst 78 rfl rfl ?_
  refine qr_iload 80 rfl rfl rfl ?_
  refine qr_iaload 81 rfl rfl (by decide) (by decide) rfl ?_
  refine qy_v 0 (by decide) ?_
  refine qr_istore _ 83 rfl (by decide) rfl rfl ?_
  refine qr_iinc _ 86 rfl rfl (by decide) rfl rfl ?_
  refine qr_goto 6 rfl rfl ?_
  refine qr_iload 8 rfl rfl rfl ?_
  refine qr_getst 11 rfl rfl ?_
  refine qr_alen 12 rfl rfl (by first | exact Or.inl (by decide) | exact Or.inr (Or.inl rfl) | exact Or.inr (Or.inr (Or.inl rfl)) | exact Or.inr (Or.inr (Or.inr (Or.inl rfl)))) rfl ?_
  refine qy_v 7 rfl ?_
  refine qr_icmp_ge 89 15 rfl rfl rfl (by omega) (by decide) (fun h => False.elim (by omega)) (fun h5 => ?_)
  refine qr_iload 17 rfl rfl rfl ?_
  refine qr_if_lt 89 20 rfl rfl rfl (by decide) (fun h => False.elim (by omega)) (fun h6 => ?_)
  refine qr_iload 22 rfl rfl rfl ?_
  refine qr_getst 25 rfl rfl ?_
  refine qr_alen 26 rfl rfl (by first | exact Or.inl (by decide) | exact Or.inr (Or.inl rfl) | exact Or.inr (Or.inr (Or.inl rfl)) | exact Or.inr (Or.inr (Or.inr (Or.inl rfl)))) rfl ?_
  refine qy_v 7 rfl ?_
  refine qr_icmp_ge 89 29 rfl rfl rfl (by decide) (by decide) (fun h => False.elim (by omega)) (fun h7 => ?_)
  refine qr_getst 32 rfl rfl ?_
  refine qr_iload 34 rfl rfl rfl ?_
  refine qr_iconst 35 rfl rfl ?_
  refine qr_imul 36 rfl rfl ?_
  refine qy_v 0 rfl ?_
  refine qr_iload_n 37 rfl rfl rfl ?_
  refine qr_iadd 38 rfl rfl ?_
  refine qy_v 1 rfl ?_
  refine qr_iaload 39 rfl rfl (by decide) (by decide) rfl ?_
  refine qy_v 10 (by decide) ?_
  refine qr_istore _ 41 rfl (by decide) rfl rfl ?_
  refine qr_iload 43 rfl rfl rfl ?_
  refine qr_if_eq 75 46 rfl rfl rfl (by decide) (fun h => False.elim (by omega)) (fun h8 => ?_)
  as_aux_lemma =>
    refine qr_iload 48 rfl rfl rfl ?_
    refine qr_bipush 50 rfl (by decide) rfl ?_
    refine qr_icmp_le 57 53 rfl rfl rfl (qrg r6 (by decide) (by decide)) (by decide) (fun h9 => ?_) (fun h => False.elim (by omega))
    refine qr_aload_n 58 rfl rfl rfl ?_
    refine qr_iload 60 rfl rfl rfl ?_
    refine qr_iload 62 rfl rfl rfl ?_
    refine qr_iload_n 63 rfl rfl rfl ?_
    refine qr_iload 65 rfl rfl rfl ?_
    refine qr_iload 67 rfl rfl rfl ?_
    refine qr_iload 69 rfl rfl rfl ?_
    refine qr_iconst 70 rfl rfl ?_
    refine qr_iadd 71 rfl rfl ?_
    have hs10 : (-2147483648) ≤ σ 42 1 ∧ σ 42 1 ≤ 2147483647 := hI.1 42 1
    refine qr_callN 74 rfl rfl rfl (sf_153_42eb10_0_1 (d := d + 0) hI r4 r5 (by omega) (by omega)) ?_
    rintro _ _ ⟨σ15, α16, rfl, hI17, hG18, hw14, v11, rfl, hv11, hx12, hx13⟩
    have hF19 : qFr [(42, 1)] [43] σ α σ15 α16 := qFr_t hF0 hG18 (by decide) (by decide)
    have hs20 : (-2147483648) ≤ σ15 42 1 ∧ σ15 42 1 ≤ 2147483647 := hI17.1 42 1
    show qr_W (qe L xs vb) (d + 6) qx_e152 _ (74, _, [.int (qz v11)], qw σ15 α16 κ ρ, 0, 0)
    refine qr_retI rfl rfl (by decide) (by decide) ?_
    exact ⟨_, _, rfl, hI17, hF19, (by have hw : σ15 42 1 = (σ15 42 1) := rfl; omega), v11, rfl, hv11, hx12, hx13⟩

set_option maxHeartbeats 4000000 in
set_option maxRecDepth 20000 in
/-- OneRoof$Acts.run -/
theorem sf_151_42er1_1 {L : Nat} {xs : Nat → Int} {vb : Bool} {d : Nat} {σ α : Nat → Nat → Int} {κ : Nat → Option Nat} {ρ : Nat} {x3 : Int} {x4 : Int} {x5 : Int} (hI : qI σ α κ ρ) (r3 : (-2147483648) ≤ x3 ∧ x3 ≤ 2147483647) (r4 : (-2147483648) ≤ x4 ∧ x4 ≤ 2147483647) (r5 : 0 ≤ x5 ∧ x5 ≤ 37) (p0 : 0 ≤ σ 42 1 ∧ σ 42 1 ≤ 21) : qm_T (qe L xs vb) (d + 8) 151 [.ref 42, .int (qz 1), .int (qz 1), .int (qz x3), .int (qz x4), .int (qz x5)] (qw σ α κ ρ) (fun r w' => ∃ σ' α', w' = qw σ' α' κ ρ ∧ qI σ' α' κ ρ ∧ qFr [(42, 1)] [43] σ α σ' α' ∧ σ' 42 1 = σ 42 1 + 3 ∧ ∃ v : Int, r = some (.int (qz v)) ∧ ((-2147483648) ≤ v ∧ v ≤ 2147483647) ∧ v = qac_m (qac_a (qac_a x3 x4) 3) 2 ∧ α' 43 = qac_t [10, 20, 1] (α 43) (σ 42 1)) := by
  refine qr_start (d := d + 7) qv_e151 (Nat.le_of_ble_eq_true rfl) ?_
  show qr_W (qe L xs vb) (d + 7) qx_e151 _ (0, [(0, .ref 42), (1, .int (qz 1)), (2, .int (qz 1)), (3, .int (qz x3)), (4, .int (qz x4)), (5, .int (qz x5))], [], _, 0, 0)
  have hF0 := qFr_rf [(42, 1)] [43] σ α
  have hz42_1 : (-2147483648) ≤ σ 42 1 ∧ σ 42 1 ≤ 2147483647 := hI.1 42 1
  refine qr_aload_n 1 rfl rfl rfl ?_
  refine qr_iload_n 2 rfl rfl rfl ?_
  refine qr_iload_n 3 rfl rfl rfl ?_
  refine qr_iload_n 4 rfl rfl rfl ?_
  refine qr_iload_n 5 rfl rfl rfl ?_
  refine qr_iload 7 rfl rfl rfl ?_
  refine qr_iload 9 rfl rfl rfl ?_
  have hs1 : (-2147483648) ≤ σ 42 1 ∧ σ 42 1 ≤ 2147483647 := hI.1 42 1
  refine qr_callN 12 rfl rfl rfl (sf_152_42ef1_1_1 (d := d + 0) hI r3 r4 r5 (by omega)) ?_
  rintro _ _ ⟨σ6, α7, rfl, hI8, hG9, hw5, v2, rfl, hv2, hx3, hx4⟩
  have hF10 : qFr [(42, 1)] [43] σ α σ6 α7 := qFr_t hF0 hG9 (by decide) (by decide)
  have hs11 : (-2147483648) ≤ σ6 42 1 ∧ σ6 42 1 ≤ 2147483647 := hI8.1 42 1
  show qr_W (qe L xs vb) (d + 7) qx_e151 _ (12, _, [.int (qz v2)], qw σ6 α7 κ ρ, 0, 0)
  refine qr_retI rfl rfl (by decide) (by decide) ?_
  exact ⟨_, _, rfl, hI8, hF10, (by have hw : σ6 42 1 = (σ6 42 1) := rfl; omega), v2, rfl, hv2, hx3, hx4⟩

set_option maxHeartbeats 4000000 in
set_option maxRecDepth 20000 in
/-- OneRoof$Acts.start -/
theorem sf_150_42es1_1 {L : Nat} {xs : Nat → Int} {vb : Bool} {d : Nat} {σ α : Nat → Nat → Int} {κ : Nat → Option Nat} {ρ : Nat} {x3 : Int} {x4 : Int} (hI : qI σ α κ ρ) (r3 : (-2147483648) ≤ x3 ∧ x3 ≤ 2147483647) (r4 : (-2147483648) ≤ x4 ∧ x4 ≤ 2147483647) (p0 : 0 ≤ σ 42 1 ∧ σ 42 1 ≤ 21) : qm_T (qe L xs vb) (d + 9) 150 [.ref 42, .int (qz 1), .int (qz 1), .int (qz x3), .int (qz x4)] (qw σ α κ ρ) (fun r w' => ∃ σ' α', w' = qw σ' α' κ ρ ∧ qI σ' α' κ ρ ∧ qFr [(42, 1)] [43] σ α σ' α' ∧ σ' 42 1 = σ 42 1 + 3 ∧ ∃ v : Int, r = some (.int (qz v)) ∧ ((-2147483648) ≤ v ∧ v ≤ 2147483647) ∧ v = qac_m (qac_a (qac_a x3 x4) 3) 2 ∧ α' 43 = qac_t [10, 20, 1] (α 43) (σ 42 1)) := by
  refine qr_start (d := d + 8) qv_e150 (Nat.le_of_ble_eq_true rfl) ?_
  show qr_W (qe L xs vb) (d + 8) qx_e150 _ (0, [(0, .ref 42), (1, .int (qz 1)), (2, .int (qz 1)), (3, .int (qz x3)), (4, .int (qz x4))], [], _, 0, 0)
  have hF0 := qFr_rf [(42, 1)] [43] σ α
  have hz42_1 : (-2147483648) ≤ σ 42 1 ∧ σ 42 1 ≤ 2147483647 := hI.1 42 1
  refine qr_aload_n 1 rfl rfl rfl ?_
  refine qr_iload_n 2 rfl rfl rfl ?_
  refine qr_iload_n 3 rfl rfl rfl ?_
  refine qr_iload_n 4 rfl rfl rfl ?_
  refine qr_iload 6 rfl rfl rfl ?_
  refine qr_iconst 7 rfl rfl ?_
  have hs1 : (-2147483648) ≤ σ 42 1 ∧ σ 42 1 ≤ 2147483647 := hI.1 42 1
  refine qr_callN 10 rfl rfl rfl (sf_151_42er1_1 (d := d + 0) hI r3 r4 (by decide) (by omega)) ?_
  rintro _ _ ⟨σ6, α7, rfl, hI8, hG9, hw5, v2, rfl, hv2, hx3, hx4⟩
  have hF10 : qFr [(42, 1)] [43] σ α σ6 α7 := qFr_t hF0 hG9 (by decide) (by decide)
  have hs11 : (-2147483648) ≤ σ6 42 1 ∧ σ6 42 1 ≤ 2147483647 := hI8.1 42 1
  show qr_W (qe L xs vb) (d + 8) qx_e150 _ (10, _, [.int (qz v2)], qw σ6 α7 κ ρ, 0, 0)
  refine qr_retI rfl rfl (by decide) (by decide) ?_
  exact ⟨_, _, rfl, hI8, hF10, (by have hw : σ6 42 1 = (σ6 42 1) := rfl; omega), v2, rfl, hv2, hx3, hx4⟩

set_option maxHeartbeats 4000000 in
set_option maxRecDepth 20000 in
/-- OneRoof$Acts.begin -/
theorem sf_153_42eb11_0_1 {L : Nat} {xs : Nat → Int} {vb : Bool} {d : Nat} {σ α : Nat → Nat → Int} {κ : Nat → Option Nat} {ρ : Nat} {x4 : Int} {x5 : Int} {x6 : Int} (hI : qI σ α κ ρ) (r4 : (-2147483648) ≤ x4 ∧ x4 ≤ 2147483647) (r5 : (-2147483648) ≤ x5 ∧ x5 ≤ 2147483647) (r6 : 0 ≤ x6 ∧ x6 ≤ 40) (p0 : 0 ≤ σ 42 1 ∧ σ 42 1 ≤ 23) : qm_T (qe L xs vb) (d + 1) 153 [.ref 42, .int (qz 11), .int (qz 0), .int (qz 1), .int (qz x4), .int (qz x5), .int (qz x6)] (qw σ α κ ρ) (fun r w' => ∃ σ' α', w' = qw σ' α' κ ρ ∧ qI σ' α' κ ρ ∧ qFr [(42, 1)] [43] σ α σ' α' ∧ σ' 42 1 = σ 42 1 + 1 ∧ ∃ v : Int, r = some (.int (qz v)) ∧ ((-2147483648) ≤ v ∧ v ≤ 2147483647) ∧ v = qac_x x4 x5 ∧ α' 43 = qac_t [11] (α 43) (σ 42 1)) := by
  refine qr_start (d := d + 0) qv_e153 (Nat.le_of_ble_eq_true rfl) ?_
  show qr_W (qe L xs vb) (d + 0) qx_e153 _ (0, [(0, .ref 42), (1, .int (qz 11)), (2, .int (qz 0)), (3, .int (qz 1)), (4, .int (qz x4)), (5, .int (qz x5)), (6, .int (qz x6))], [], _, 0, 0)
  have hF0 := qFr_rf [(42, 1)] [43] σ α
  have hz42_1 : (-2147483648) ≤ σ 42 1 ∧ σ 42 1 ≤ 2147483647 := hI.1 42 1
  refine qr_aload_n 1 rfl rfl rfl ?_
  refine qr_get 4 rfl rfl rfl (by decide) rfl ?_
  refine qr_aload_n 5 rfl rfl rfl ?_
  refine qr_get 8 rfl rfl rfl (by decide) rfl ?_
  refine qr_alen 9 rfl rfl (by first | exact Or.inl (by decide) | exact Or.inr (Or.inl rfl) | exact Or.inr (Or.inr (Or.inl rfl)) | exact Or.inr (Or.inr (Or.inr (Or.inl rfl)))) rfl ?_
  refine qy_v 24 rfl ?_
  refine qr_icmp_ge 22 12 rfl rfl rfl hz42_1 (by decide) (fun h => False.elim (by omega)) (fun h1 => ?_)
  refine qr_aload_n 13 rfl rfl rfl ?_
  refine qr_get 16 rfl rfl rfl (by decide) rfl ?_
  refine qr_aload_n 17 rfl rfl rfl ?_
  refine qr_get 20 rfl rfl rfl (by decide) rfl ?_
  refine qr_iload_n 21 rfl rfl rfl ?_
  refine qr_iastore 22 rfl (by decide) rfl (by omega) (by decide) rfl ?_
  refine qy_wA (qw_r α 43 (qzu (α 43) ((σ 42 1) : Int).toNat 11)) rfl (fun α2 e3 => ?_)
  have hI4 : qI σ α2 κ ρ := by rw [e3]; exact qI_r hI 43 _ rfl (show (-2147483648) ≤ 11 ∧ 11 ≤ 2147483647 by omega)
  have hF5 : qFr [(42, 1)] [43] σ α σ α2 := by rw [e3]; exact qFr_r hF0 43 _ (by decide)
  refine qr_aload_n 23 rfl rfl rfl ?_
  refine qr_dup 24 rfl rfl rfl ?_
  refine qr_get 27 rfl rfl rfl (by decide) rfl ?_
  refine qr_iconst 28 rfl rfl ?_
  refine qr_iadd 29 rfl rfl ?_
  refine qr_put 32 rfl (by decide) rfl (Nat.le_of_ble_eq_true rfl) (Nat.le_of_ble_eq_true rfl) (Or.inl rfl) (qr_fitI rfl _) rfl ?_
  refine qy_wS (qw_s σ 42 1 ((σ 42 1) + 1)) rfl (fun σ6 e7 => ?_)
  have hI8 : qI σ6 α2 κ ρ := by rw [e7]; exact qI_s hI4 42 1 rfl (show (-2147483648) ≤ ((σ 42 1) + 1) ∧ ((σ 42 1) + 1) ≤ 2147483647 by omega)
  have hF9 : qFr [(42, 1)] [43] σ α σ6 α2 := by rw [e7]; exact qFr_s hF5 42 1 _ (by decide)
  refine qr_getst 35 rfl rfl ?_
  refine qr_iload_n 36 rfl rfl rfl ?_
  refine qr_iaload 37 rfl rfl (by decide) (by decide) rfl ?_
  refine qy_v (-1) (by decide) ?_
  refine qr_istore _ 39 rfl (by decide) rfl rfl ?_
  refine qr_iload_n 40 rfl rfl rfl ?_
  refine qr_look (off := 154) 194 rfl (by omega) (by decide) (by decide) rfl ?_
  refine qr_iload 196 rfl rfl rfl ?_
  refine qr_iload 198 rfl rfl rfl ?_
  refine qr_ixor 199 rfl rfl ?_
  refine qy_canE (fun v10 hv10 hev10 => ?_)
  refine qr_retI rfl rfl (by decide) (by decide) ?_
  exact ⟨_, _, rfl, hI8, hF9, (by have hw : σ6 42 1 = ((σ 42 1) + 1) := (congrFun (congrFun e7 42) 1).trans rfl; omega), v10, rfl, hv10, (qac_v hev10 (by omega)), (((congrFun e3 43).trans (qw_r_eq.trans (congrArg (fun f => qzu f ((σ 42 1) : Int).toNat 11) rfl))))⟩

set_option maxHeartbeats 4000000 in
set_option maxRecDepth 20000 in
/-- OneRoof$Acts.runFrom -/
theorem sf_152_42ef1_1_2 {L : Nat} {xs : Nat → Int} {vb : Bool} {d : Nat} {σ α : Nat → Nat → Int} {κ : Nat → Option Nat} {ρ : Nat} {x4 : Int} {x5 : Int} {x6 : Int} (hI : qI σ α κ ρ) (r4 : (-2147483648) ≤ x4 ∧ x4 ≤ 2147483647) (r5 : (-2147483648) ≤ x5 ∧ x5 ≤ 2147483647) (r6 : 0 ≤ x6 ∧ x6 ≤ 39) (p0 : 0 ≤ σ 42 1 ∧ σ 42 1 ≤ 23) : qm_T (qe L xs vb) (d + 2) 152 [.ref 42, .int (qz 1), .int (qz 1), .int (qz 2), .int (qz x4), .int (qz x5), .int (qz x6)] (qw σ α κ ρ) (fun r w' => ∃ σ' α', w' = qw σ' α' κ ρ ∧ qI σ' α' κ ρ ∧ qFr [(42, 1)] [43] σ α σ' α' ∧ σ' 42 1 = σ 42 1 + 1 ∧ ∃ v : Int, r = some (.int (qz v)) ∧ ((-2147483648) ≤ v ∧ v ≤ 2147483647) ∧ v = qac_x x4 x5 ∧ α' 43 = qac_t [11] (α 43) (σ 42 1)) := by
  refine qr_start (d := d + 1) qv_e152 (Nat.le_of_ble_eq_true rfl) ?_
  show qr_W (qe L xs vb) (d + 1) qx_e152 _ (0, [(0, .ref 42), (1, .int (qz 1)), (2, .int (qz 1)), (3, .int (qz 2)), (4, .int (qz x4)), (5, .int (qz x5)), (6, .int (qz x6))], [], _, 0, 0)
  have hF0 := qFr_rf [(42, 1)] [43] σ α
  have hz42_1 : (-2147483648) ≤ σ 42 1 ∧ σ 42 1 ≤ 2147483647 := hI.1 42 1
  refine qr_iload_n 1 rfl rfl rfl ?_
  refine qr_istore _ 3 rfl (by decide) rfl rfl ?_
  refine qr_iconst 4 rfl rfl ?_
  refine qr_istore _ 6 rfl (by decide) rfl rfl ?_
  refine qr_iload 8 rfl rfl rfl ?_
  refine qr_getst 11 rfl rfl ?_
  refine qr_alen 12 rfl rfl (by first | exact Or.inl (by decide) | exact Or.inr (Or.inl rfl) | exact Or.inr (Or.inr (Or.inl rfl)) | exact Or.inr (Or.inr (Or.inr (Or.inl rfl)))) rfl ?_
  refine qy_v 7 rfl ?_
  refine qr_icmp_ge 89 15 rfl rfl rfl (by decide) (by decide) (fun h => False.elim (by omega)) (fun h1 => ?_)
  refine qr_iload 17 rfl rfl rfl ?_
  refine qr_if_lt 89 20 rfl rfl rfl (by decide) (fun h => False.elim (by omega)) (fun h2 => ?_)
  refine qr_iload 22 rfl rfl rfl ?_
  refine qr_getst 25 rfl rfl ?_
  refine qr_alen 26 rfl rfl (by first | exact Or.inl (by decide) | exact Or.inr (Or.inl rfl) | exact Or.inr (Or.inr (Or.inl rfl)) | exact Or.inr (Or.inr (Or.inr (Or.inl rfl)))) rfl ?_
  refine qy_v 7 rfl ?_
  refine qr_icmp_ge 89 29 rfl rfl rfl (by decide) (by decide) (fun h => False.elim (by omega)) (fun h3 => ?_)
  refine qr_getst 32 rfl rfl ?_
  refine qr_iload 34 rfl rfl rfl ?_
  refine qr_iconst 35 rfl rfl ?_
  refine qr_imul 36 rfl rfl ?_
  refine qy_v 4 rfl ?_
  refine qr_iload_n 37 rfl rfl rfl ?_
  refine qr_iadd 38 rfl rfl ?_
  refine qy_v 6 rfl ?_
  refine qr_iaload 39 rfl rfl (by decide) (by decide) rfl ?_
  refine qy_v 0 (by decide) ?_
  refine qr_istore _ 41 rfl (by decide) rfl rfl ?_
  refine qr_iload 43 rfl rfl rfl ?_
  refine qr_if_eq 75 46 rfl rfl rfl (by decide) (fun h4 => ?_) (fun h => False.elim (by omega))
  refine qr_getst 78 rfl rfl ?_
  refine qr_iload 80 rfl rfl rfl ?_
  refine qr_iaload 81 rfl rfl (by decide) (by decide) rfl ?_
  refine qy_v 0 (by decide) ?_
  refine qr_istore _ 83 rfl (by decide) rfl rfl ?_
  refine qr_iinc _ 86 rfl rfl (by decide) rfl rfl ?_
  refine qr_goto 6 rfl rfl ?_
  refine qr_iload 8 rfl rfl rfl ?_
  refine qr_getst 11 rfl rfl ?_
  refine qr_alen 12 rfl rfl (by first | exact Or.inl (by decide) | exact Or.inr (Or.inl rfl) | exact Or.inr (Or.inr (Or.inl rfl)) | exact Or.inr (Or.inr (Or.inr (Or.inl rfl)))) rfl ?_
  refine qy_v 7 rfl ?_
  refine qr_icmp_ge 89 15 rfl rfl rfl (by omega) (by decide) (fun h => False.elim (by omega)) (fun h5 => ?_)
  refine qr_iload 17 rfl rfl rfl ?_
  refine qr_if_lt 89 20 rfl rfl rfl (by decide) (fun h => False.elim (by omega)) (fun h6 => ?_)
  refine qr_iload 22 rfl rfl rfl ?_
  refine qr_getst 25 rfl rfl ?_
  refine qr_alen 26 rfl rfl (by first | exact Or.inl (by decide) | exact Or.inr (Or.inl rfl) | exact Or.inr (Or.inr (Or.inl rfl)) | exact Or.inr (Or.inr (Or.inr (Or.inl rfl)))) rfl ?_
  refine qy_v 7 rfl ?_
  refine qr_icmp_ge 89 29 rfl rfl rfl (by decide) (by decide) (fun h => False.elim (by omega)) (fun h7 => ?_)
  refine qr_getst 32 rfl rfl ?_
  refine qr_iload 34 rfl rfl rfl ?_
  refine qr_iconst 35 rfl rfl ?_
  refine qr_imul 36 rfl rfl ?_
  refine qy_v 0 rfl ?_
  refine qr_iload_n 37 rfl rfl rfl ?_
  refine qr_iadd 38 rfl rfl ?_
  refine qy_v 2 rfl ?_
  refine qr_iaload 39 rfl rfl (by decide) (by decide) rfl ?_
  refine qy_v 11 (by decide) ?_
  refine qr_istore _ 41 rfl (by decide) rfl rfl ?_
  refine qr_iload 43 rfl rfl rfl ?_
  refine qr_if_eq 75 46 rfl rfl rfl (by decide) (fun h => False.elim (by omega)) (fun h8 => ?_)
  as_aux_lemma =>
    refine qr_iload 48 rfl rfl rfl ?_
    refine qr_bipush 50 rfl (by decide) rfl ?_
    refine qr_icmp_le 57 53 rfl rfl rfl (qrg r6 (by decide) (by decide)) (by decide) (fun h9 => ?_) (fun h => False.elim (by omega))
    refine qr_aload_n 58 rfl rfl rfl ?_
    refine qr_iload 60 rfl rfl rfl ?_
    refine qr_iload 62 rfl rfl rfl ?_
    refine qr_iload_n 63 rfl rfl rfl ?_
    refine qr_iload 65 rfl rfl rfl ?_
    refine qr_iload 67 rfl rfl rfl ?_
    refine qr_iload 69 rfl rfl rfl ?_
    refine qr_iconst 70 rfl rfl ?_
    refine qr_iadd 71 rfl rfl ?_
    have hs10 : (-2147483648) ≤ σ 42 1 ∧ σ 42 1 ≤ 2147483647 := hI.1 42 1
    refine qr_callN 74 rfl rfl rfl (sf_153_42eb11_0_1 (d := d + 0) hI r4 r5 (by omega) (by omega)) ?_
    rintro _ _ ⟨σ15, α16, rfl, hI17, hG18, hw14, v11, rfl, hv11, hx12, hx13⟩
    have hF19 : qFr [(42, 1)] [43] σ α σ15 α16 := qFr_t hF0 hG18 (by decide) (by decide)
    have hs20 : (-2147483648) ≤ σ15 42 1 ∧ σ15 42 1 ≤ 2147483647 := hI17.1 42 1
    show qr_W (qe L xs vb) (d + 1) qx_e152 _ (74, _, [.int (qz v11)], qw σ15 α16 κ ρ, 0, 0)
    refine qr_retI rfl rfl (by decide) (by decide) ?_
    exact ⟨_, _, rfl, hI17, hF19, (by have hw : σ15 42 1 = (σ15 42 1) := rfl; omega), v11, rfl, hv11, hx12, hx13⟩

set_option maxHeartbeats 4000000 in
set_option maxRecDepth 20000 in
/-- OneRoof$Acts.run -/
theorem sf_151_42er1_2 {L : Nat} {xs : Nat → Int} {vb : Bool} {d : Nat} {σ α : Nat → Nat → Int} {κ : Nat → Option Nat} {ρ : Nat} {x3 : Int} {x4 : Int} {x5 : Int} (hI : qI σ α κ ρ) (r3 : (-2147483648) ≤ x3 ∧ x3 ≤ 2147483647) (r4 : (-2147483648) ≤ x4 ∧ x4 ≤ 2147483647) (r5 : 0 ≤ x5 ∧ x5 ≤ 39) (p0 : 0 ≤ σ 42 1 ∧ σ 42 1 ≤ 23) : qm_T (qe L xs vb) (d + 3) 151 [.ref 42, .int (qz 1), .int (qz 2), .int (qz x3), .int (qz x4), .int (qz x5)] (qw σ α κ ρ) (fun r w' => ∃ σ' α', w' = qw σ' α' κ ρ ∧ qI σ' α' κ ρ ∧ qFr [(42, 1)] [43] σ α σ' α' ∧ σ' 42 1 = σ 42 1 + 1 ∧ ∃ v : Int, r = some (.int (qz v)) ∧ ((-2147483648) ≤ v ∧ v ≤ 2147483647) ∧ v = qac_x x3 x4 ∧ α' 43 = qac_t [11] (α 43) (σ 42 1)) := by
  refine qr_start (d := d + 2) qv_e151 (Nat.le_of_ble_eq_true rfl) ?_
  show qr_W (qe L xs vb) (d + 2) qx_e151 _ (0, [(0, .ref 42), (1, .int (qz 1)), (2, .int (qz 2)), (3, .int (qz x3)), (4, .int (qz x4)), (5, .int (qz x5))], [], _, 0, 0)
  have hF0 := qFr_rf [(42, 1)] [43] σ α
  have hz42_1 : (-2147483648) ≤ σ 42 1 ∧ σ 42 1 ≤ 2147483647 := hI.1 42 1
  refine qr_aload_n 1 rfl rfl rfl ?_
  refine qr_iload_n 2 rfl rfl rfl ?_
  refine qr_iload_n 3 rfl rfl rfl ?_
  refine qr_iload_n 4 rfl rfl rfl ?_
  refine qr_iload_n 5 rfl rfl rfl ?_
  refine qr_iload 7 rfl rfl rfl ?_
  refine qr_iload 9 rfl rfl rfl ?_
  have hs1 : (-2147483648) ≤ σ 42 1 ∧ σ 42 1 ≤ 2147483647 := hI.1 42 1
  refine qr_callN 12 rfl rfl rfl (sf_152_42ef1_1_2 (d := d + 0) hI r3 r4 r5 (by omega)) ?_
  rintro _ _ ⟨σ6, α7, rfl, hI8, hG9, hw5, v2, rfl, hv2, hx3, hx4⟩
  have hF10 : qFr [(42, 1)] [43] σ α σ6 α7 := qFr_t hF0 hG9 (by decide) (by decide)
  have hs11 : (-2147483648) ≤ σ6 42 1 ∧ σ6 42 1 ≤ 2147483647 := hI8.1 42 1
  show qr_W (qe L xs vb) (d + 2) qx_e151 _ (12, _, [.int (qz v2)], qw σ6 α7 κ ρ, 0, 0)
  refine qr_retI rfl rfl (by decide) (by decide) ?_
  exact ⟨_, _, rfl, hI8, hF10, (by have hw : σ6 42 1 = (σ6 42 1) := rfl; omega), v2, rfl, hv2, hx3, hx4⟩

set_option maxHeartbeats 4000000 in
set_option maxRecDepth 20000 in
/-- OneRoof$Acts.start -/
theorem sf_150_42es1_2 {L : Nat} {xs : Nat → Int} {vb : Bool} {d : Nat} {σ α : Nat → Nat → Int} {κ : Nat → Option Nat} {ρ : Nat} {x3 : Int} {x4 : Int} (hI : qI σ α κ ρ) (r3 : (-2147483648) ≤ x3 ∧ x3 ≤ 2147483647) (r4 : (-2147483648) ≤ x4 ∧ x4 ≤ 2147483647) (p0 : 0 ≤ σ 42 1 ∧ σ 42 1 ≤ 23) : qm_T (qe L xs vb) (d + 4) 150 [.ref 42, .int (qz 1), .int (qz 2), .int (qz x3), .int (qz x4)] (qw σ α κ ρ) (fun r w' => ∃ σ' α', w' = qw σ' α' κ ρ ∧ qI σ' α' κ ρ ∧ qFr [(42, 1)] [43] σ α σ' α' ∧ σ' 42 1 = σ 42 1 + 1 ∧ ∃ v : Int, r = some (.int (qz v)) ∧ ((-2147483648) ≤ v ∧ v ≤ 2147483647) ∧ v = qac_x x3 x4 ∧ α' 43 = qac_t [11] (α 43) (σ 42 1)) := by
  refine qr_start (d := d + 3) qv_e150 (Nat.le_of_ble_eq_true rfl) ?_
  show qr_W (qe L xs vb) (d + 3) qx_e150 _ (0, [(0, .ref 42), (1, .int (qz 1)), (2, .int (qz 2)), (3, .int (qz x3)), (4, .int (qz x4))], [], _, 0, 0)
  have hF0 := qFr_rf [(42, 1)] [43] σ α
  have hz42_1 : (-2147483648) ≤ σ 42 1 ∧ σ 42 1 ≤ 2147483647 := hI.1 42 1
  refine qr_aload_n 1 rfl rfl rfl ?_
  refine qr_iload_n 2 rfl rfl rfl ?_
  refine qr_iload_n 3 rfl rfl rfl ?_
  refine qr_iload_n 4 rfl rfl rfl ?_
  refine qr_iload 6 rfl rfl rfl ?_
  refine qr_iconst 7 rfl rfl ?_
  have hs1 : (-2147483648) ≤ σ 42 1 ∧ σ 42 1 ≤ 2147483647 := hI.1 42 1
  refine qr_callN 10 rfl rfl rfl (sf_151_42er1_2 (d := d + 0) hI r3 r4 (by decide) (by omega)) ?_
  rintro _ _ ⟨σ6, α7, rfl, hI8, hG9, hw5, v2, rfl, hv2, hx3, hx4⟩
  have hF10 : qFr [(42, 1)] [43] σ α σ6 α7 := qFr_t hF0 hG9 (by decide) (by decide)
  have hs11 : (-2147483648) ≤ σ6 42 1 ∧ σ6 42 1 ≤ 2147483647 := hI8.1 42 1
  show qr_W (qe L xs vb) (d + 3) qx_e150 _ (10, _, [.int (qz v2)], qw σ6 α7 κ ρ, 0, 0)
  refine qr_retI rfl rfl (by decide) (by decide) ?_
  exact ⟨_, _, rfl, hI8, hF10, (by have hw : σ6 42 1 = (σ6 42 1) := rfl; omega), v2, rfl, hv2, hx3, hx4⟩

set_option maxHeartbeats 4000000 in
set_option maxRecDepth 20000 in
/-- OneRoof$Acts.begin -/
theorem sf_153_42eb2_0_1 {L : Nat} {xs : Nat → Int} {vb : Bool} {d : Nat} {σ α : Nat → Nat → Int} {κ : Nat → Option Nat} {ρ : Nat} {x4 : Int} {x5 : Int} {x6 : Int} (hI : qI σ α κ ρ) (r4 : (-2147483648) ≤ x4 ∧ x4 ≤ 2147483647) (r5 : (-2147483648) ≤ x5 ∧ x5 ≤ 2147483647) (r6 : 0 ≤ x6 ∧ x6 ≤ 37) (p0 : 0 ≤ σ 42 1 ∧ σ 42 1 ≤ 19) : qm_T (qe L xs vb) (d + 9) 153 [.ref 42, .int (qz 2), .int (qz 0), .int (qz 1), .int (qz x4), .int (qz x5), .int (qz x6)] (qw σ α κ ρ) (fun r w' => ∃ σ' α', w' = qw σ' α' κ ρ ∧ qI σ' α' κ ρ ∧ qFr [(42, 1)] [43] σ α σ' α' ∧ σ' 42 1 = σ 42 1 + 5 ∧ ∃ v : Int, r = some (.int (qz v)) ∧ ((-2147483648) ≤ v ∧ v ≤ 2147483647) ∧ v = qac_s (qac_m (qac_a (qac_a x4 x5) 3) 2) (qac_x 1 x5) ∧ α' 43 = qac_t [2, 10, 20, 1, 11] (α 43) (σ 42 1)) := by
  refine qr_start (d := d + 8) qv_e153 (Nat.le_of_ble_eq_true rfl) ?_
  show qr_W (qe L xs vb) (d + 8) qx_e153 _ (0, [(0, .ref 42), (1, .int (qz 2)), (2, .int (qz 0)), (3, .int (qz 1)), (4, .int (qz x4)), (5, .int (qz x5)), (6, .int (qz x6))], [], _, 0, 0)
  have hF0 := qFr_rf [(42, 1)] [43] σ α
  have hz42_1 : (-2147483648) ≤ σ 42 1 ∧ σ 42 1 ≤ 2147483647 := hI.1 42 1
  refine qr_aload_n 1 rfl rfl rfl ?_
  refine qr_get 4 rfl rfl rfl (by decide) rfl ?_
  refine qr_aload_n 5 rfl rfl rfl ?_
  refine qr_get 8 rfl rfl rfl (by decide) rfl ?_
  refine qr_alen 9 rfl rfl (by first | exact Or.inl (by decide) | exact Or.inr (Or.inl rfl) | exact Or.inr (Or.inr (Or.inl rfl)) | exact Or.inr (Or.inr (Or.inr (Or.inl rfl)))) rfl ?_
  refine qy_v 24 rfl ?_
  refine qr_icmp_ge 22 12 rfl rfl rfl hz42_1 (by decide) (fun h => False.elim (by omega)) (fun h1 => ?_)
  refine qr_aload_n 13 rfl rfl rfl ?_
  refine qr_get 16 rfl rfl rfl (by decide) rfl ?_
  refine qr_aload_n 17 rfl rfl rfl ?_
  refine qr_get 20 rfl rfl rfl (by decide) rfl ?_
  refine qr_iload_n 21 rfl rfl rfl ?_
  refine qr_iastore 22 rfl (by decide) rfl (by omega) (by decide) rfl ?_
  refine qy_wA (qw_r α 43 (qzu (α 43) ((σ 42 1) : Int).toNat 2)) rfl (fun α2 e3 => ?_)
  have hI4 : qI σ α2 κ ρ := by rw [e3]; exact qI_r hI 43 _ rfl (show (-2147483648) ≤ 2 ∧ 2 ≤ 2147483647 by omega)
  have hF5 : qFr [(42, 1)] [43] σ α σ α2 := by rw [e3]; exact qFr_r hF0 43 _ (by decide)
  refine qr_aload_n 23 rfl rfl rfl ?_
  refine qr_dup 24 rfl rfl rfl ?_
  refine qr_get 27 rfl rfl rfl (by decide) rfl ?_
  refine qr_iconst 28 rfl rfl ?_
  refine qr_iadd 29 rfl rfl ?_
  refine qr_put 32 rfl (by decide) rfl (Nat.le_of_ble_eq_true rfl) (Nat.le_of_ble_eq_true rfl) (Or.inl rfl) (qr_fitI rfl _) rfl ?_
  refine qy_wS (qw_s σ 42 1 ((σ 42 1) + 1)) rfl (fun σ6 e7 => ?_)
  have hI8 : qI σ6 α2 κ ρ := by rw [e7]; exact qI_s hI4 42 1 rfl (show (-2147483648) ≤ ((σ 42 1) + 1) ∧ ((σ 42 1) + 1) ≤ 2147483647 by omega)
  have hF9 : qFr [(42, 1)] [43] σ α σ6 α2 := by rw [e7]; exact qFr_s hF5 42 1 _ (by decide)
  refine qr_getst 35 rfl rfl ?_
  refine qr_iload_n 36 rfl rfl rfl ?_
  refine qr_iaload 37 rfl rfl (by decide) (by decide) rfl ?_
  refine qy_v (-1) (by decide) ?_
  refine qr_istore _ 39 rfl (by decide) rfl rfl ?_
  refine qr_iload_n 40 rfl rfl rfl ?_
  refine qr_look (off := 114) 154 rfl (by omega) (by decide) (by decide) rfl ?_
  refine qr_aload_n 155 rfl rfl rfl ?_
  refine qr_iload_n 156 rfl rfl rfl ?_
  refine qr_iconst 157 rfl rfl ?_
  refine qr_iload 159 rfl rfl rfl ?_
  refine qr_iload 161 rfl rfl rfl ?_
  refine qr_iload 163 rfl rfl rfl ?_
  have hr10 : σ6 42 1 = ((σ 42 1) + 1) := (congrFun (congrFun e7 42) 1).trans rfl
  have hs11 : (-2147483648) ≤ σ6 42 1 ∧ σ6 42 1 ≤ 2147483647 := hI8.1 42 1
  have hs12 : σ6 42 1 = ((σ 42 1) + 1) := (congrFun (congrFun e7 42) 1).trans rfl
  refine qr_callN 166 rfl rfl rfl (sf_151_42er1_1 (d := d + 0) hI8 r4 r5 r6 (by omega)) ?_
  rintro _ _ ⟨σ17, α18, rfl, hI19, hG20, hw16, v13, rfl, hv13, hx14, hx15⟩
  have hF21 : qFr [(42, 1)] [43] σ α σ17 α18 := qFr_t hF9 hG20 (by decide) (by decide)
  have hs22 : (-2147483648) ≤ σ17 42 1 ∧ σ17 42 1 ≤ 2147483647 := hI19.1 42 1
  show qr_W (qe L xs vb) (d + 8) qx_e153 _ (166, _, [.int (qz v13)], qw σ17 α18 κ ρ, 0, 0)
  refine qr_aload_n 167 rfl rfl rfl ?_
  refine qr_iload_n 168 rfl rfl rfl ?_
  refine qr_iconst 169 rfl rfl ?_
  refine qr_iconst 170 rfl rfl ?_
  refine qr_iload 172 rfl rfl rfl ?_
  refine qr_iload 174 rfl rfl rfl ?_
  have hr23 : σ17 42 1 = (σ17 42 1) := rfl
  have hs24 : (-2147483648) ≤ σ17 42 1 ∧ σ17 42 1 ≤ 2147483647 := hI19.1 42 1
  refine qr_callN 177 rfl rfl rfl (sf_151_42er1_2 (d := d + 5) hI19 (by decide) r5 (qrg r6 (by decide) (by decide)) (by omega)) ?_
  rintro _ _ ⟨σ29, α30, rfl, hI31, hG32, hw28, v25, rfl, hv25, hx26, hx27⟩
  have hF33 : qFr [(42, 1)] [43] σ α σ29 α30 := qFr_t hF21 hG32 (by decide) (by decide)
  have hs34 : (-2147483648) ≤ σ29 42 1 ∧ σ29 42 1 ≤ 2147483647 := hI31.1 42 1
  show qr_W (qe L xs vb) (d + 8) qx_e153 _ (177, _, [.int (qz v25), .int (qz v13)], qw σ29 α30 κ ρ, 0, 0)
  refine qr_isub 178 rfl rfl ?_
  refine qy_canE (fun v35 hv35 hev35 => ?_)
  refine qr_retI rfl rfl (by decide) (by decide) ?_
  exact ⟨_, _, rfl, hI31, hF33, (by have hw : σ29 42 1 = (σ29 42 1) := rfl; omega), v35, rfl, hv35, ((qac_v hev35 (by omega)).trans (by rw [hx14, hx26]; rfl)), (by rw [hx27, hx15, show α2 43 = qzu (α 43) (σ 42 1 : Int).toNat 2 from ((congrFun e3 43).trans (qw_r_eq.trans (congrArg (fun f => qzu f ((σ 42 1) : Int).toNat 2) rfl))), show σ6 42 1 = σ 42 1 + 1 by omega, show σ17 42 1 = σ 42 1 + 1 + 3 by omega]; exact (qac_t_app [10, 20, 1] [11] (qzu (α 43) (σ 42 1 : Int).toNat 2) (σ 42 1 + 1)).symm)⟩

set_option maxHeartbeats 4000000 in
set_option maxRecDepth 20000 in
/-- OneRoof$Acts.runFrom -/
theorem sf_152_42ef1_1_3 {L : Nat} {xs : Nat → Int} {vb : Bool} {d : Nat} {σ α : Nat → Nat → Int} {κ : Nat → Option Nat} {ρ : Nat} {x4 : Int} {x5 : Int} {x6 : Int} (hI : qI σ α κ ρ) (r4 : (-2147483648) ≤ x4 ∧ x4 ≤ 2147483647) (r5 : (-2147483648) ≤ x5 ∧ x5 ≤ 2147483647) (r6 : 0 ≤ x6 ∧ x6 ≤ 36) (p0 : 0 ≤ σ 42 1 ∧ σ 42 1 ≤ 19) : qm_T (qe L xs vb) (d + 10) 152 [.ref 42, .int (qz 1), .int (qz 1), .int (qz 3), .int (qz x4), .int (qz x5), .int (qz x6)] (qw σ α κ ρ) (fun r w' => ∃ σ' α', w' = qw σ' α' κ ρ ∧ qI σ' α' κ ρ ∧ qFr [(42, 1)] [43] σ α σ' α' ∧ σ' 42 1 = σ 42 1 + 5 ∧ ∃ v : Int, r = some (.int (qz v)) ∧ ((-2147483648) ≤ v ∧ v ≤ 2147483647) ∧ v = qac_s (qac_m (qac_a (qac_a x4 x5) 3) 2) (qac_x 1 x5) ∧ α' 43 = qac_t [2, 10, 20, 1, 11] (α 43) (σ 42 1)) := by
  refine qr_start (d := d + 9) qv_e152 (Nat.le_of_ble_eq_true rfl) ?_
  show qr_W (qe L xs vb) (d + 9) qx_e152 _ (0, [(0, .ref 42), (1, .int (qz 1)), (2, .int (qz 1)), (3, .int (qz 3)), (4, .int (qz x4)), (5, .int (qz x5)), (6, .int (qz x6))], [], _, 0, 0)
  have hF0 := qFr_rf [(42, 1)] [43] σ α
  have hz42_1 : (-2147483648) ≤ σ 42 1 ∧ σ 42 1 ≤ 2147483647 := hI.1 42 1
  refine qr_iload_n 1 rfl rfl rfl ?_
  refine qr_istore _ 3 rfl (by decide) rfl rfl ?_
  refine qr_iconst 4 rfl rfl ?_
  refine qr_istore _ 6 rfl (by decide) rfl rfl ?_
  refine qr_iload 8 rfl rfl rfl ?_
  refine qr_getst 11 rfl rfl ?_
  refine qr_alen 12 rfl rfl (by first | exact Or.inl (by decide) | exact Or.inr (Or.inl rfl) | exact Or.inr (Or.inr (Or.inl rfl)) | exact Or.inr (Or.inr (Or.inr (Or.inl rfl)))) rfl ?_
  refine qy_v 7 rfl ?_
  refine qr_icmp_ge 89 15 rfl rfl rfl (by decide) (by decide) (fun h => False.elim (by omega)) (fun h1 => ?_)
  refine qr_iload 17 rfl rfl rfl ?_
  refine qr_if_lt 89 20 rfl rfl rfl (by decide) (fun h => False.elim (by omega)) (fun h2 => ?_)
  refine qr_iload 22 rfl rfl rfl ?_
  refine qr_getst 25 rfl rfl ?_
  refine qr_alen 26 rfl rfl (by first | exact Or.inl (by decide) | exact Or.inr (Or.inl rfl) | exact Or.inr (Or.inr (Or.inl rfl)) | exact Or.inr (Or.inr (Or.inr (Or.inl rfl)))) rfl ?_
  refine qy_v 7 rfl ?_
  refine qr_icmp_ge 89 29 rfl rfl rfl (by decide) (by decide) (fun h => False.elim (by omega)) (fun h3 => ?_)
  refine qr_getst 32 rfl rfl ?_
  refine qr_iload 34 rfl rfl rfl ?_
  refine qr_iconst 35 rfl rfl ?_
  refine qr_imul 36 rfl rfl ?_
  refine qy_v 4 rfl ?_
  refine qr_iload_n 37 rfl rfl rfl ?_
  refine qr_iadd 38 rfl rfl ?_
  refine qy_v 7 rfl ?_
  refine qr_iaload 39 rfl rfl (by decide) (by decide) rfl ?_
  refine qy_v 0 (by decide) ?_
  refine qr_istore _ 41 rfl (by decide) rfl rfl ?_
  refine qr_iload 43 rfl rfl rfl ?_
  refine qr_if_eq 75 46 rfl rfl rfl (by decide) (fun h4 => ?_) (fun h => False.elim (by omega))
  refine qr_getst 78 rfl rfl ?_
  refine qr_iload 80 rfl rfl rfl ?_
  refine qr_iaload 81 rfl rfl (by decide) (by decide) rfl ?_
  refine qy_v 0 (by decide) ?_
  refine qr_istore _ 83 rfl (by decide) rfl rfl ?_
  refine qr_iinc _ 86 rfl rfl (by decide) rfl rfl ?_
  refine qr_goto 6 rfl rfl ?_
  refine qr_iload 8 rfl rfl rfl ?_
  refine qr_getst 11 rfl rfl ?_
  refine qr_alen 12 rfl rfl (by first | exact Or.inl (by decide) | exact Or.inr (Or.inl rfl) | exact Or.inr (Or.inr (Or.inl rfl)) | exact Or.inr (Or.inr (Or.inr (Or.inl rfl)))) rfl ?_
  refine qy_v 7 rfl ?_
  refine qr_icmp_ge 89 15 rfl rfl rfl (by omega) (by decide) (fun h => False.elim (by omega)) (fun h5 => ?_)
  refine qr_iload 17 rfl rfl rfl ?_
  refine qr_if_lt 89 20 rfl rfl rfl (by decide) (fun h => False.elim (by omega)) (fun h6 => ?_)
  refine qr_iload 22 rfl rfl rfl ?_
  refine qr_getst 25 rfl rfl ?_
  refine qr_alen 26 rfl rfl (by first | exact Or.inl (by decide) | exact Or.inr (Or.inl rfl) | exact Or.inr (Or.inr (Or.inl rfl)) | exact Or.inr (Or.inr (Or.inr (Or.inl rfl)))) rfl ?_
  refine qy_v 7 rfl ?_
  refine qr_icmp_ge 89 29 rfl rfl rfl (by decide) (by decide) (fun h => False.elim (by omega)) (fun h7 => ?_)
  refine qr_getst 32 rfl rfl ?_
  refine qr_iload 34 rfl rfl rfl ?_
  refine qr_iconst 35 rfl rfl ?_
  refine qr_imul 36 rfl rfl ?_
  refine qy_v 0 rfl ?_
  refine qr_iload_n 37 rfl rfl rfl ?_
  refine qr_iadd 38 rfl rfl ?_
  refine qy_v 3 rfl ?_
  refine qr_iaload 39 rfl rfl (by decide) (by decide) rfl ?_
  refine qy_v 2 (by decide) ?_
  refine qr_istore _ 41 rfl (by decide) rfl rfl ?_
  refine qr_iload 43 rfl rfl rfl ?_
  refine qr_if_eq 75 46 rfl rfl rfl (by decide) (fun h => False.elim (by omega)) (fun h8 => ?_)
  as_aux_lemma =>
    refine qr_iload 48 rfl rfl rfl ?_
    refine qr_bipush 50 rfl (by decide) rfl ?_
    refine qr_icmp_le 57 53 rfl rfl rfl (qrg r6 (by decide) (by decide)) (by decide) (fun h9 => ?_) (fun h => False.elim (by omega))
    refine qr_aload_n 58 rfl rfl rfl ?_
    refine qr_iload 60 rfl rfl rfl ?_
    refine qr_iload 62 rfl rfl rfl ?_
    refine qr_iload_n 63 rfl rfl rfl ?_
    refine qr_iload 65 rfl rfl rfl ?_
    refine qr_iload 67 rfl rfl rfl ?_
    refine qr_iload 69 rfl rfl rfl ?_
    refine qr_iconst 70 rfl rfl ?_
    refine qr_iadd 71 rfl rfl ?_
    have hs10 : (-2147483648) ≤ σ 42 1 ∧ σ 42 1 ≤ 2147483647 := hI.1 42 1
    refine qr_callN 74 rfl rfl rfl (sf_153_42eb2_0_1 (d := d + 0) hI r4 r5 (by omega) (by omega)) ?_
    rintro _ _ ⟨σ15, α16, rfl, hI17, hG18, hw14, v11, rfl, hv11, hx12, hx13⟩
    have hF19 : qFr [(42, 1)] [43] σ α σ15 α16 := qFr_t hF0 hG18 (by decide) (by decide)
    have hs20 : (-2147483648) ≤ σ15 42 1 ∧ σ15 42 1 ≤ 2147483647 := hI17.1 42 1
    show qr_W (qe L xs vb) (d + 9) qx_e152 _ (74, _, [.int (qz v11)], qw σ15 α16 κ ρ, 0, 0)
    refine qr_retI rfl rfl (by decide) (by decide) ?_
    exact ⟨_, _, rfl, hI17, hF19, (by have hw : σ15 42 1 = (σ15 42 1) := rfl; omega), v11, rfl, hv11, hx12, hx13⟩

set_option maxHeartbeats 4000000 in
set_option maxRecDepth 20000 in
/-- OneRoof$Acts.run -/
theorem sf_151_42er1_3 {L : Nat} {xs : Nat → Int} {vb : Bool} {d : Nat} {σ α : Nat → Nat → Int} {κ : Nat → Option Nat} {ρ : Nat} {x3 : Int} {x4 : Int} {x5 : Int} (hI : qI σ α κ ρ) (r3 : (-2147483648) ≤ x3 ∧ x3 ≤ 2147483647) (r4 : (-2147483648) ≤ x4 ∧ x4 ≤ 2147483647) (r5 : 0 ≤ x5 ∧ x5 ≤ 36) (p0 : 0 ≤ σ 42 1 ∧ σ 42 1 ≤ 19) : qm_T (qe L xs vb) (d + 11) 151 [.ref 42, .int (qz 1), .int (qz 3), .int (qz x3), .int (qz x4), .int (qz x5)] (qw σ α κ ρ) (fun r w' => ∃ σ' α', w' = qw σ' α' κ ρ ∧ qI σ' α' κ ρ ∧ qFr [(42, 1)] [43] σ α σ' α' ∧ σ' 42 1 = σ 42 1 + 5 ∧ ∃ v : Int, r = some (.int (qz v)) ∧ ((-2147483648) ≤ v ∧ v ≤ 2147483647) ∧ v = qac_s (qac_m (qac_a (qac_a x3 x4) 3) 2) (qac_x 1 x4) ∧ α' 43 = qac_t [2, 10, 20, 1, 11] (α 43) (σ 42 1)) := by
  refine qr_start (d := d + 10) qv_e151 (Nat.le_of_ble_eq_true rfl) ?_
  show qr_W (qe L xs vb) (d + 10) qx_e151 _ (0, [(0, .ref 42), (1, .int (qz 1)), (2, .int (qz 3)), (3, .int (qz x3)), (4, .int (qz x4)), (5, .int (qz x5))], [], _, 0, 0)
  have hF0 := qFr_rf [(42, 1)] [43] σ α
  have hz42_1 : (-2147483648) ≤ σ 42 1 ∧ σ 42 1 ≤ 2147483647 := hI.1 42 1
  refine qr_aload_n 1 rfl rfl rfl ?_
  refine qr_iload_n 2 rfl rfl rfl ?_
  refine qr_iload_n 3 rfl rfl rfl ?_
  refine qr_iload_n 4 rfl rfl rfl ?_
  refine qr_iload_n 5 rfl rfl rfl ?_
  refine qr_iload 7 rfl rfl rfl ?_
  refine qr_iload 9 rfl rfl rfl ?_
  have hs1 : (-2147483648) ≤ σ 42 1 ∧ σ 42 1 ≤ 2147483647 := hI.1 42 1
  refine qr_callN 12 rfl rfl rfl (sf_152_42ef1_1_3 (d := d + 0) hI r3 r4 r5 (by omega)) ?_
  rintro _ _ ⟨σ6, α7, rfl, hI8, hG9, hw5, v2, rfl, hv2, hx3, hx4⟩
  have hF10 : qFr [(42, 1)] [43] σ α σ6 α7 := qFr_t hF0 hG9 (by decide) (by decide)
  have hs11 : (-2147483648) ≤ σ6 42 1 ∧ σ6 42 1 ≤ 2147483647 := hI8.1 42 1
  show qr_W (qe L xs vb) (d + 10) qx_e151 _ (12, _, [.int (qz v2)], qw σ6 α7 κ ρ, 0, 0)
  refine qr_retI rfl rfl (by decide) (by decide) ?_
  exact ⟨_, _, rfl, hI8, hF10, (by have hw : σ6 42 1 = (σ6 42 1) := rfl; omega), v2, rfl, hv2, hx3, hx4⟩

set_option maxHeartbeats 4000000 in
set_option maxRecDepth 20000 in
/-- OneRoof$Acts.start -/
theorem sf_150_42es1_3 {L : Nat} {xs : Nat → Int} {vb : Bool} {d : Nat} {σ α : Nat → Nat → Int} {κ : Nat → Option Nat} {ρ : Nat} {x3 : Int} {x4 : Int} (hI : qI σ α κ ρ) (r3 : (-2147483648) ≤ x3 ∧ x3 ≤ 2147483647) (r4 : (-2147483648) ≤ x4 ∧ x4 ≤ 2147483647) (p0 : 0 ≤ σ 42 1 ∧ σ 42 1 ≤ 19) : qm_T (qe L xs vb) (d + 12) 150 [.ref 42, .int (qz 1), .int (qz 3), .int (qz x3), .int (qz x4)] (qw σ α κ ρ) (fun r w' => ∃ σ' α', w' = qw σ' α' κ ρ ∧ qI σ' α' κ ρ ∧ qFr [(42, 1)] [43] σ α σ' α' ∧ σ' 42 1 = σ 42 1 + 5 ∧ ∃ v : Int, r = some (.int (qz v)) ∧ ((-2147483648) ≤ v ∧ v ≤ 2147483647) ∧ v = qac_s (qac_m (qac_a (qac_a x3 x4) 3) 2) (qac_x 1 x4) ∧ α' 43 = qac_t [2, 10, 20, 1, 11] (α 43) (σ 42 1)) := by
  refine qr_start (d := d + 11) qv_e150 (Nat.le_of_ble_eq_true rfl) ?_
  show qr_W (qe L xs vb) (d + 11) qx_e150 _ (0, [(0, .ref 42), (1, .int (qz 1)), (2, .int (qz 3)), (3, .int (qz x3)), (4, .int (qz x4))], [], _, 0, 0)
  have hF0 := qFr_rf [(42, 1)] [43] σ α
  have hz42_1 : (-2147483648) ≤ σ 42 1 ∧ σ 42 1 ≤ 2147483647 := hI.1 42 1
  refine qr_aload_n 1 rfl rfl rfl ?_
  refine qr_iload_n 2 rfl rfl rfl ?_
  refine qr_iload_n 3 rfl rfl rfl ?_
  refine qr_iload_n 4 rfl rfl rfl ?_
  refine qr_iload 6 rfl rfl rfl ?_
  refine qr_iconst 7 rfl rfl ?_
  have hs1 : (-2147483648) ≤ σ 42 1 ∧ σ 42 1 ≤ 2147483647 := hI.1 42 1
  refine qr_callN 10 rfl rfl rfl (sf_151_42er1_3 (d := d + 0) hI r3 r4 (by decide) (by omega)) ?_
  rintro _ _ ⟨σ6, α7, rfl, hI8, hG9, hw5, v2, rfl, hv2, hx3, hx4⟩
  have hF10 : qFr [(42, 1)] [43] σ α σ6 α7 := qFr_t hF0 hG9 (by decide) (by decide)
  have hs11 : (-2147483648) ≤ σ6 42 1 ∧ σ6 42 1 ≤ 2147483647 := hI8.1 42 1
  show qr_W (qe L xs vb) (d + 11) qx_e150 _ (10, _, [.int (qz v2)], qw σ6 α7 κ ρ, 0, 0)
  refine qr_retI rfl rfl (by decide) (by decide) ?_
  exact ⟨_, _, rfl, hI8, hF10, (by have hw : σ6 42 1 = (σ6 42 1) := rfl; omega), v2, rfl, hv2, hx3, hx4⟩

set_option maxHeartbeats 4000000 in
set_option maxRecDepth 20000 in
/-- OneRoof$Acts.begin -/
theorem sf_153_42eb1_0_2 {L : Nat} {xs : Nat → Int} {vb : Bool} {d : Nat} {σ α : Nat → Nat → Int} {κ : Nat → Option Nat} {ρ : Nat} {x4 : Int} {x5 : Int} {x6 : Int} (hI : qI σ α κ ρ) (r4 : (-2147483648) ≤ x4 ∧ x4 ≤ 2147483647) (r5 : (-2147483648) ≤ x5 ∧ x5 ≤ 2147483647) (r6 : 0 ≤ x6 ∧ x6 ≤ 40) (p0 : 0 ≤ σ 42 1 ∧ σ 42 1 ≤ 23) : qm_T (qe L xs vb) (d + 1) 153 [.ref 42, .int (qz 1), .int (qz 0), .int (qz 2), .int (qz x4), .int (qz x5), .int (qz x6)] (qw σ α κ ρ) (fun r w' => ∃ σ' α', w' = qw σ' α' κ ρ ∧ qI σ' α' κ ρ ∧ qFr [(42, 1)] [43] σ α σ' α' ∧ σ' 42 1 = σ 42 1 + 1 ∧ ∃ v : Int, r = some (.int (qz v)) ∧ ((-2147483648) ≤ v ∧ v ≤ 2147483647) ∧ v = qac_a x4 x5 ∧ α' 43 = qac_t [1] (α 43) (σ 42 1)) := by
  refine qr_start (d := d + 0) qv_e153 (Nat.le_of_ble_eq_true rfl) ?_
  show qr_W (qe L xs vb) (d + 0) qx_e153 _ (0, [(0, .ref 42), (1, .int (qz 1)), (2, .int (qz 0)), (3, .int (qz 2)), (4, .int (qz x4)), (5, .int (qz x5)), (6, .int (qz x6))], [], _, 0, 0)
  have hF0 := qFr_rf [(42, 1)] [43] σ α
  have hz42_1 : (-2147483648) ≤ σ 42 1 ∧ σ 42 1 ≤ 2147483647 := hI.1 42 1
  refine qr_aload_n 1 rfl rfl rfl ?_
  refine qr_get 4 rfl rfl rfl (by decide) rfl ?_
  refine qr_aload_n 5 rfl rfl rfl ?_
  refine qr_get 8 rfl rfl rfl (by decide) rfl ?_
  refine qr_alen 9 rfl rfl (by first | exact Or.inl (by decide) | exact Or.inr (Or.inl rfl) | exact Or.inr (Or.inr (Or.inl rfl)) | exact Or.inr (Or.inr (Or.inr (Or.inl rfl)))) rfl ?_
  refine qy_v 24 rfl ?_
  refine qr_icmp_ge 22 12 rfl rfl rfl hz42_1 (by decide) (fun h => False.elim (by omega)) (fun h1 => ?_)
  refine qr_aload_n 13 rfl rfl rfl ?_
  refine qr_get 16 rfl rfl rfl (by decide) rfl ?_
  refine qr_aload_n 17 rfl rfl rfl ?_
  refine qr_get 20 rfl rfl rfl (by decide) rfl ?_
  refine qr_iload_n 21 rfl rfl rfl ?_
  refine qr_iastore 22 rfl (by decide) rfl (by omega) (by decide) rfl ?_
  refine qy_wA (qw_r α 43 (qzu (α 43) ((σ 42 1) : Int).toNat 1)) rfl (fun α2 e3 => ?_)
  have hI4 : qI σ α2 κ ρ := by rw [e3]; exact qI_r hI 43 _ rfl (show (-2147483648) ≤ 1 ∧ 1 ≤ 2147483647 by omega)
  have hF5 : qFr [(42, 1)] [43] σ α σ α2 := by rw [e3]; exact qFr_r hF0 43 _ (by decide)
  refine qr_aload_n 23 rfl rfl rfl ?_
  refine qr_dup 24 rfl rfl rfl ?_
  refine qr_get 27 rfl rfl rfl (by decide) rfl ?_
  refine qr_iconst 28 rfl rfl ?_
  refine qr_iadd 29 rfl rfl ?_
  refine qr_put 32 rfl (by decide) rfl (Nat.le_of_ble_eq_true rfl) (Nat.le_of_ble_eq_true rfl) (Or.inl rfl) (qr_fitI rfl _) rfl ?_
  refine qy_wS (qw_s σ 42 1 ((σ 42 1) + 1)) rfl (fun σ6 e7 => ?_)
  have hI8 : qI σ6 α2 κ ρ := by rw [e7]; exact qI_s hI4 42 1 rfl (show (-2147483648) ≤ ((σ 42 1) + 1) ∧ ((σ 42 1) + 1) ≤ 2147483647 by omega)
  have hF9 : qFr [(42, 1)] [43] σ α σ6 α2 := by rw [e7]; exact qFr_s hF5 42 1 _ (by decide)
  refine qr_getst 35 rfl rfl ?_
  refine qr_iload_n 36 rfl rfl rfl ?_
  refine qr_iaload 37 rfl rfl (by decide) (by decide) rfl ?_
  refine qy_v (-1) (by decide) ?_
  refine qr_istore _ 39 rfl (by decide) rfl rfl ?_
  refine qr_iload_n 40 rfl rfl rfl ?_
  refine qr_look (off := 108) 148 rfl (by omega) (by decide) (by decide) rfl ?_
  refine qr_iload 150 rfl rfl rfl ?_
  refine qr_iload 152 rfl rfl rfl ?_
  refine qr_iadd 153 rfl rfl ?_
  refine qy_canE (fun v10 hv10 hev10 => ?_)
  refine qr_retI rfl rfl (by decide) (by decide) ?_
  exact ⟨_, _, rfl, hI8, hF9, (by have hw : σ6 42 1 = ((σ 42 1) + 1) := (congrFun (congrFun e7 42) 1).trans rfl; omega), v10, rfl, hv10, (qac_v hev10 (by omega)), (((congrFun e3 43).trans (qw_r_eq.trans (congrArg (fun f => qzu f ((σ 42 1) : Int).toNat 1) rfl))))⟩

set_option maxHeartbeats 4000000 in
set_option maxRecDepth 20000 in
/-- OneRoof$Acts.runFrom -/
theorem sf_152_42ef0_2_0 {L : Nat} {xs : Nat → Int} {vb : Bool} {d : Nat} {σ α : Nat → Nat → Int} {κ : Nat → Option Nat} {ρ : Nat} {x4 : Int} {x5 : Int} {x6 : Int} (hI : qI σ α κ ρ) (r4 : (-2147483648) ≤ x4 ∧ x4 ≤ 2147483647) (r5 : (-2147483648) ≤ x5 ∧ x5 ≤ 2147483647) (r6 : 0 ≤ x6 ∧ x6 ≤ 39) (p0 : 0 ≤ σ 42 1 ∧ σ 42 1 ≤ 23) : qm_T (qe L xs vb) (d + 2) 152 [.ref 42, .int (qz 0), .int (qz 2), .int (qz 0), .int (qz x4), .int (qz x5), .int (qz x6)] (qw σ α κ ρ) (fun r w' => ∃ σ' α', w' = qw σ' α' κ ρ ∧ qI σ' α' κ ρ ∧ qFr [(42, 1)] [43] σ α σ' α' ∧ σ' 42 1 = σ 42 1 + 1 ∧ ∃ v : Int, r = some (.int (qz v)) ∧ ((-2147483648) ≤ v ∧ v ≤ 2147483647) ∧ v = qac_a x4 x5 ∧ α' 43 = qac_t [1] (α 43) (σ 42 1)) := by
  refine qr_start (d := d + 1) qv_e152 (Nat.le_of_ble_eq_true rfl) ?_
  show qr_W (qe L xs vb) (d + 1) qx_e152 _ (0, [(0, .ref 42), (1, .int (qz 0)), (2, .int (qz 2)), (3, .int (qz 0)), (4, .int (qz x4)), (5, .int (qz x5)), (6, .int (qz x6))], [], _, 0, 0)
  have hF0 := qFr_rf [(42, 1)] [43] σ α
  have hz42_1 : (-2147483648) ≤ σ 42 1 ∧ σ 42 1 ≤ 2147483647 := hI.1 42 1
  refine qr_iload_n 1 rfl rfl rfl ?_
  refine qr_istore _ 3 rfl (by decide) rfl rfl ?_
  refine qr_iconst 4 rfl rfl ?_
  refine qr_istore _ 6 rfl (by decide) rfl rfl ?_
  refine qr_iload 8 rfl rfl rfl ?_
  refine qr_getst 11 rfl rfl ?_
  refine qr_alen 12 rfl rfl (by first | exact Or.inl (by decide) | exact Or.inr (Or.inl rfl) | exact Or.inr (Or.inr (Or.inl rfl)) | exact Or.inr (Or.inr (Or.inr (Or.inl rfl)))) rfl ?_
  refine qy_v 7 rfl ?_
  refine qr_icmp_ge 89 15 rfl rfl rfl (by decide) (by decide) (fun h => False.elim (by omega)) (fun h1 => ?_)
  refine qr_iload 17 rfl rfl rfl ?_
  refine qr_if_lt 89 20 rfl rfl rfl (by decide) (fun h => False.elim (by omega)) (fun h2 => ?_)
  refine qr_iload 22 rfl rfl rfl ?_
  refine qr_getst 25 rfl rfl ?_
  refine qr_alen 26 rfl rfl (by first | exact Or.inl (by decide) | exact Or.inr (Or.inl rfl) | exact Or.inr (Or.inr (Or.inl rfl)) | exact Or.inr (Or.inr (Or.inr (Or.inl rfl)))) rfl ?_
  refine qy_v 7 rfl ?_
  refine qr_icmp_ge 89 29 rfl rfl rfl (by decide) (by decide) (fun h => False.elim (by omega)) (fun h3 => ?_)
  refine qr_getst 32 rfl rfl ?_
  refine qr_iload 34 rfl rfl rfl ?_
  refine qr_iconst 35 rfl rfl ?_
  refine qr_imul 36 rfl rfl ?_
  refine qy_v 0 rfl ?_
  refine qr_iload_n 37 rfl rfl rfl ?_
  refine qr_iadd 38 rfl rfl ?_
  refine qy_v 0 rfl ?_
  refine qr_iaload 39 rfl rfl (by decide) (by decide) rfl ?_
  refine qy_v 1 (by decide) ?_
  refine qr_istore _ 41 rfl (by decide) rfl rfl ?_
  refine qr_iload 43 rfl rfl rfl ?_
  refine qr_if_eq 75 46 rfl rfl rfl (by decide) (fun h => False.elim (by omega)) (fun h4 => ?_)
  refine qr_iload 48 rfl rfl rfl ?_
  refine qr_bipush 50 rfl (by decide) rfl ?_
  refine qr_icmp_le 57 53 rfl rfl rfl (qrg r6 (by decide) (by decide)) (by decide) (fun h5 => ?_) (fun h => False.elim (by omega))
  refine qr_aload_n 58 rfl rfl rfl ?_
  refine qr_iload 60 rfl rfl rfl ?_
  refine qr_iload 62 rfl rfl rfl ?_
  refine qr_iload_n 63 rfl rfl rfl ?_
  refine qr_iload 65 rfl rfl rfl ?_
  refine qr_iload 67 rfl rfl rfl ?_
  refine qr_iload 69 rfl rfl rfl ?_
  refine qr_iconst 70 rfl rfl ?_
  refine qr_iadd 71 rfl rfl ?_
  have hs6 : (-2147483648) ≤ σ 42 1 ∧ σ 42 1 ≤ 2147483647 := hI.1 42 1
  refine qr_callN 74 rfl rfl rfl (sf_153_42eb1_0_2 (d := d + 0) hI r4 r5 (by omega) (by omega)) ?_
  rintro _ _ ⟨σ11, α12, rfl, hI13, hG14, hw10, v7, rfl, hv7, hx8, hx9⟩
  have hF15 : qFr [(42, 1)] [43] σ α σ11 α12 := qFr_t hF0 hG14 (by decide) (by decide)
  have hs16 : (-2147483648) ≤ σ11 42 1 ∧ σ11 42 1 ≤ 2147483647 := hI13.1 42 1
  show qr_W (qe L xs vb) (d + 1) qx_e152 _ (74, _, [.int (qz v7)], qw σ11 α12 κ ρ, 0, 0)
  refine qr_retI rfl rfl (by decide) (by decide) ?_
  exact ⟨_, _, rfl, hI13, hF15, (by have hw : σ11 42 1 = (σ11 42 1) := rfl; omega), v7, rfl, hv7, hx8, hx9⟩

set_option maxHeartbeats 4000000 in
set_option maxRecDepth 20000 in
/-- OneRoof$Acts.begin -/
theorem sf_153_42eb20_1_2 {L : Nat} {xs : Nat → Int} {vb : Bool} {d : Nat} {σ α : Nat → Nat → Int} {κ : Nat → Option Nat} {ρ : Nat} {x4 : Int} {x5 : Int} {x6 : Int} (hI : qI σ α κ ρ) (r4 : (-2147483648) ≤ x4 ∧ x4 ≤ 2147483647) (r5 : (-2147483648) ≤ x5 ∧ x5 ≤ 2147483647) (r6 : 0 ≤ x6 ∧ x6 ≤ 39) (p0 : 0 ≤ σ 42 1 ∧ σ 42 1 ≤ 22) : qm_T (qe L xs vb) (d + 3) 153 [.ref 42, .int (qz 20), .int (qz 1), .int (qz 2), .int (qz x4), .int (qz x5), .int (qz x6)] (qw σ α κ ρ) (fun r w' => ∃ σ' α', w' = qw σ' α' κ ρ ∧ qI σ' α' κ ρ ∧ qFr [(42, 1)] [43] σ α σ' α' ∧ σ' 42 1 = σ 42 1 + 2 ∧ ∃ v : Int, r = some (.int (qz v)) ∧ ((-2147483648) ≤ v ∧ v ≤ 2147483647) ∧ v = qac_a (qac_a x4 x5) 3 ∧ α' 43 = qac_t [20, 1] (α 43) (σ 42 1)) := by
  refine qr_start (d := d + 2) qv_e153 (Nat.le_of_ble_eq_true rfl) ?_
  show qr_W (qe L xs vb) (d + 2) qx_e153 _ (0, [(0, .ref 42), (1, .int (qz 20)), (2, .int (qz 1)), (3, .int (qz 2)), (4, .int (qz x4)), (5, .int (qz x5)), (6, .int (qz x6))], [], _, 0, 0)
  have hF0 := qFr_rf [(42, 1)] [43] σ α
  have hz42_1 : (-2147483648) ≤ σ 42 1 ∧ σ 42 1 ≤ 2147483647 := hI.1 42 1
  refine qr_aload_n 1 rfl rfl rfl ?_
  refine qr_get 4 rfl rfl rfl (by decide) rfl ?_
  refine qr_aload_n 5 rfl rfl rfl ?_
  refine qr_get 8 rfl rfl rfl (by decide) rfl ?_
  refine qr_alen 9 rfl rfl (by first | exact Or.inl (by decide) | exact Or.inr (Or.inl rfl) | exact Or.inr (Or.inr (Or.inl rfl)) | exact Or.inr (Or.inr (Or.inr (Or.inl rfl)))) rfl ?_
  refine qy_v 24 rfl ?_
  refine qr_icmp_ge 22 12 rfl rfl rfl hz42_1 (by decide) (fun h => False.elim (by omega)) (fun h1 => ?_)
  refine qr_aload_n 13 rfl rfl rfl ?_
  refine qr_get 16 rfl rfl rfl (by decide) rfl ?_
  refine qr_aload_n 17 rfl rfl rfl ?_
  refine qr_get 20 rfl rfl rfl (by decide) rfl ?_
  refine qr_iload_n 21 rfl rfl rfl ?_
  refine qr_iastore 22 rfl (by decide) rfl (by omega) (by decide) rfl ?_
  refine qy_wA (qw_r α 43 (qzu (α 43) ((σ 42 1) : Int).toNat 20)) rfl (fun α2 e3 => ?_)
  have hI4 : qI σ α2 κ ρ := by rw [e3]; exact qI_r hI 43 _ rfl (show (-2147483648) ≤ 20 ∧ 20 ≤ 2147483647 by omega)
  have hF5 : qFr [(42, 1)] [43] σ α σ α2 := by rw [e3]; exact qFr_r hF0 43 _ (by decide)
  refine qr_aload_n 23 rfl rfl rfl ?_
  refine qr_dup 24 rfl rfl rfl ?_
  refine qr_get 27 rfl rfl rfl (by decide) rfl ?_
  refine qr_iconst 28 rfl rfl ?_
  refine qr_iadd 29 rfl rfl ?_
  refine qr_put 32 rfl (by decide) rfl (Nat.le_of_ble_eq_true rfl) (Nat.le_of_ble_eq_true rfl) (Or.inl rfl) (qr_fitI rfl _) rfl ?_
  refine qy_wS (qw_s σ 42 1 ((σ 42 1) + 1)) rfl (fun σ6 e7 => ?_)
  have hI8 : qI σ6 α2 κ ρ := by rw [e7]; exact qI_s hI4 42 1 rfl (show (-2147483648) ≤ ((σ 42 1) + 1) ∧ ((σ 42 1) + 1) ≤ 2147483647 by omega)
  have hF9 : qFr [(42, 1)] [43] σ α σ6 α2 := by rw [e7]; exact qFr_s hF5 42 1 _ (by decide)
  refine qr_getst 35 rfl rfl ?_
  refine qr_iload_n 36 rfl rfl rfl ?_
  refine qr_iaload 37 rfl rfl (by decide) (by decide) rfl ?_
  refine qy_v 0 (by decide) ?_
  refine qr_istore _ 39 rfl (by decide) rfl rfl ?_
  refine qr_iload_n 40 rfl rfl rfl ?_
  refine qr_look (off := 160) 200 rfl (by omega) (by decide) (by decide) rfl ?_
  refine qr_aload_n 201 rfl rfl rfl ?_
  refine qr_iload 203 rfl rfl rfl ?_
  refine qr_iload_n 204 rfl rfl rfl ?_
  refine qr_iconst 205 rfl rfl ?_
  refine qr_iload 207 rfl rfl rfl ?_
  refine qr_iload 209 rfl rfl rfl ?_
  refine qr_iload 211 rfl rfl rfl ?_
  have hr10 : σ6 42 1 = ((σ 42 1) + 1) := (congrFun (congrFun e7 42) 1).trans rfl
  have hs11 : (-2147483648) ≤ σ6 42 1 ∧ σ6 42 1 ≤ 2147483647 := hI8.1 42 1
  have hs12 : σ6 42 1 = ((σ 42 1) + 1) := (congrFun (congrFun e7 42) 1).trans rfl
  refine qr_callN 214 rfl rfl rfl (sf_152_42ef0_2_0 (d := d + 0) hI8 r4 r5 r6 (by omega)) ?_
  rintro _ _ ⟨σ17, α18, rfl, hI19, hG20, hw16, v13, rfl, hv13, hx14, hx15⟩
  have hF21 : qFr [(42, 1)] [43] σ α σ17 α18 := qFr_t hF9 hG20 (by decide) (by decide)
  have hs22 : (-2147483648) ≤ σ17 42 1 ∧ σ17 42 1 ≤ 2147483647 := hI19.1 42 1
  show qr_W (qe L xs vb) (d + 2) qx_e153 _ (214, _, [.int (qz v13)], qw σ17 α18 κ ρ, 0, 0)
  refine qr_iconst 215 rfl rfl ?_
  refine qr_iadd 216 rfl rfl ?_
  refine qy_canE (fun v23 hv23 hev23 => ?_)
  refine qr_retI rfl rfl (by decide) (by decide) ?_
  exact ⟨_, _, rfl, hI19, hF21, (by have hw : σ17 42 1 = (σ17 42 1) := rfl; omega), v23, rfl, hv23, ((qac_v hev23 (by omega)).trans (by rw [hx14]; rfl)), (by rw [hx15, show α2 43 = qzu (α 43) (σ 42 1 : Int).toNat 20 from ((congrFun e3 43).trans (qw_r_eq.trans (congrArg (fun f => qzu f ((σ 42 1) : Int).toNat 20) rfl))), show σ6 42 1 = σ 42 1 + 1 by omega]; rfl)⟩

set_option maxHeartbeats 4000000 in
set_option maxRecDepth 20000 in
/-- OneRoof$Acts.runFrom -/
theorem sf_152_42ef1_2_0 {L : Nat} {xs : Nat → Int} {vb : Bool} {d : Nat} {σ α : Nat → Nat → Int} {κ : Nat → Option Nat} {ρ : Nat} {x4 : Int} {x5 : Int} {x6 : Int} (hI : qI σ α κ ρ) (r4 : (-2147483648) ≤ x4 ∧ x4 ≤ 2147483647) (r5 : (-2147483648) ≤ x5 ∧ x5 ≤ 2147483647) (r6 : 0 ≤ x6 ∧ x6 ≤ 38) (p0 : 0 ≤ σ 42 1 ∧ σ 42 1 ≤ 22) : qm_T (qe L xs vb) (d + 4) 152 [.ref 42, .int (qz 1), .int (qz 2), .int (qz 0), .int (qz x4), .int (qz x5), .int (qz x6)] (qw σ α κ ρ) (fun r w' => ∃ σ' α', w' = qw σ' α' κ ρ ∧ qI σ' α' κ ρ ∧ qFr [(42, 1)] [43] σ α σ' α' ∧ σ' 42 1 = σ 42 1 + 2 ∧ ∃ v : Int, r = some (.int (qz v)) ∧ ((-2147483648) ≤ v ∧ v ≤ 2147483647) ∧ v = qac_a (qac_a x4 x5) 3 ∧ α' 43 = qac_t [20, 1] (α 43) (σ 42 1)) := by
  refine qr_start (d := d + 3) qv_e152 (Nat.le_of_ble_eq_true rfl) ?_
  show qr_W (qe L xs vb) (d + 3) qx_e152 _ (0, [(0, .ref 42), (1, .int (qz 1)), (2, .int (qz 2)), (3, .int (qz 0)), (4, .int (qz x4)), (5, .int (qz x5)), (6, .int (qz x6))], [], _, 0, 0)
  have hF0 := qFr_rf [(42, 1)] [43] σ α
  have hz42_1 : (-2147483648) ≤ σ 42 1 ∧ σ 42 1 ≤ 2147483647 := hI.1 42 1
  refine qr_iload_n 1 rfl rfl rfl ?_
  refine qr_istore _ 3 rfl (by decide) rfl rfl ?_
  refine qr_iconst 4 rfl rfl ?_
  refine qr_istore _ 6 rfl (by decide) rfl rfl ?_
  refine qr_iload 8 rfl rfl rfl ?_
  refine qr_getst 11 rfl rfl ?_
  refine qr_alen 12 rfl rfl (by first | exact Or.inl (by decide) | exact Or.inr (Or.inl rfl) | exact Or.inr (Or.inr (Or.inl rfl)) | exact Or.inr (Or.inr (Or.inr (Or.inl rfl)))) rfl ?_
  refine qy_v 7 rfl ?_
  refine qr_icmp_ge 89 15 rfl rfl rfl (by decide) (by decide) (fun h => False.elim (by omega)) (fun h1 => ?_)
  refine qr_iload 17 rfl rfl rfl ?_
  refine qr_if_lt 89 20 rfl rfl rfl (by decide) (fun h => False.elim (by omega)) (fun h2 => ?_)
  refine qr_iload 22 rfl rfl rfl ?_
  refine qr_getst 25 rfl rfl ?_
  refine qr_alen 26 rfl rfl (by first | exact Or.inl (by decide) | exact Or.inr (Or.inl rfl) | exact Or.inr (Or.inr (Or.inl rfl)) | exact Or.inr (Or.inr (Or.inr (Or.inl rfl)))) rfl ?_
  refine qy_v 7 rfl ?_
  refine qr_icmp_ge 89 29 rfl rfl rfl (by decide) (by decide) (fun h => False.elim (by omega)) (fun h3 => ?_)
  refine qr_getst 32 rfl rfl ?_
  refine qr_iload 34 rfl rfl rfl ?_
  refine qr_iconst 35 rfl rfl ?_
  refine qr_imul 36 rfl rfl ?_
  refine qy_v 4 rfl ?_
  refine qr_iload_n 37 rfl rfl rfl ?_
  refine qr_iadd 38 rfl rfl ?_
  refine qy_v 4 rfl ?_
  refine qr_iaload 39 rfl rfl (by decide) (by decide) rfl ?_
  refine qy_v 20 (by decide) ?_
  refine qr_istore _ 41 rfl (by decide) rfl rfl ?_
  refine qr_iload 43 rfl rfl rfl ?_
  refine qr_if_eq 75 46 rfl rfl rfl (by decide) (fun h => False.elim (by omega)) (fun h4 => ?_)
  refine qr_iload 48 rfl rfl rfl ?_
  refine qr_bipush 50 rfl (by decide) rfl ?_
  refine qr_icmp_le 57 53 rfl rfl rfl (qrg r6 (by decide) (by decide)) (by decide) (fun h5 => ?_) (fun h => False.elim (by omega))
  refine qr_aload_n 58 rfl rfl rfl ?_
  refine qr_iload 60 rfl rfl rfl ?_
  refine qr_iload 62 rfl rfl rfl ?_
  refine qr_iload_n 63 rfl rfl rfl ?_
  refine qr_iload 65 rfl rfl rfl ?_
  refine qr_iload 67 rfl rfl rfl ?_
  refine qr_iload 69 rfl rfl rfl ?_
  refine qr_iconst 70 rfl rfl ?_
  refine qr_iadd 71 rfl rfl ?_
  have hs6 : (-2147483648) ≤ σ 42 1 ∧ σ 42 1 ≤ 2147483647 := hI.1 42 1
  refine qr_callN 74 rfl rfl rfl (sf_153_42eb20_1_2 (d := d + 0) hI r4 r5 (by omega) (by omega)) ?_
  rintro _ _ ⟨σ11, α12, rfl, hI13, hG14, hw10, v7, rfl, hv7, hx8, hx9⟩
  have hF15 : qFr [(42, 1)] [43] σ α σ11 α12 := qFr_t hF0 hG14 (by decide) (by decide)
  have hs16 : (-2147483648) ≤ σ11 42 1 ∧ σ11 42 1 ≤ 2147483647 := hI13.1 42 1
  show qr_W (qe L xs vb) (d + 3) qx_e152 _ (74, _, [.int (qz v7)], qw σ11 α12 κ ρ, 0, 0)
  refine qr_retI rfl rfl (by decide) (by decide) ?_
  exact ⟨_, _, rfl, hI13, hF15, (by have hw : σ11 42 1 = (σ11 42 1) := rfl; omega), v7, rfl, hv7, hx8, hx9⟩

set_option maxHeartbeats 4000000 in
set_option maxRecDepth 20000 in
/-- OneRoof$Acts.begin -/
theorem sf_153_42eb31_2_2 {L : Nat} {xs : Nat → Int} {vb : Bool} {d : Nat} {σ α : Nat → Nat → Int} {κ : Nat → Option Nat} {ρ : Nat} {x4 : Int} {x5 : Int} {x6 : Int} (hI : qI σ α κ ρ) (r4 : (-2147483648) ≤ x4 ∧ x4 ≤ 2147483647) (r5 : (-2147483648) ≤ x5 ∧ x5 ≤ 2147483647) (r6 : 0 ≤ x6 ∧ x6 ≤ 38) (p0 : 0 ≤ σ 42 1 ∧ σ 42 1 ≤ 21) : qm_T (qe L xs vb) (d + 5) 153 [.ref 42, .int (qz 31), .int (qz 2), .int (qz 2), .int (qz x4), .int (qz x5), .int (qz x6)] (qw σ α κ ρ) (fun r w' => ∃ σ' α', w' = qw σ' α' κ ρ ∧ qI σ' α' κ ρ ∧ qFr [(42, 1)] [43] σ α σ' α' ∧ σ' 42 1 = σ 42 1 + 3 ∧ ∃ v : Int, r = some (.int (qz v)) ∧ ((-2147483648) ≤ v ∧ v ≤ 2147483647) ∧ v = qac_a (qac_a (qac_a x4 1) x5) 3 ∧ α' 43 = qac_t [31, 20, 1] (α 43) (σ 42 1)) := by
  refine qr_start (d := d + 4) qv_e153 (Nat.le_of_ble_eq_true rfl) ?_
  show qr_W (qe L xs vb) (d + 4) qx_e153 _ (0, [(0, .ref 42), (1, .int (qz 31)), (2, .int (qz 2)), (3, .int (qz 2)), (4, .int (qz x4)), (5, .int (qz x5)), (6, .int (qz x6))], [], _, 0, 0)
  have hF0 := qFr_rf [(42, 1)] [43] σ α
  have hz42_1 : (-2147483648) ≤ σ 42 1 ∧ σ 42 1 ≤ 2147483647 := hI.1 42 1
  refine qr_aload_n 1 rfl rfl rfl ?_
  refine qr_get 4 rfl rfl rfl (by decide) rfl ?_
  refine qr_aload_n 5 rfl rfl rfl ?_
  refine qr_get 8 rfl rfl rfl (by decide) rfl ?_
  refine qr_alen 9 rfl rfl (by first | exact Or.inl (by decide) | exact Or.inr (Or.inl rfl) | exact Or.inr (Or.inr (Or.inl rfl)) | exact Or.inr (Or.inr (Or.inr (Or.inl rfl)))) rfl ?_
  refine qy_v 24 rfl ?_
  refine qr_icmp_ge 22 12 rfl rfl rfl hz42_1 (by decide) (fun h => False.elim (by omega)) (fun h1 => ?_)
  refine qr_aload_n 13 rfl rfl rfl ?_
  refine qr_get 16 rfl rfl rfl (by decide) rfl ?_
  refine qr_aload_n 17 rfl rfl rfl ?_
  refine qr_get 20 rfl rfl rfl (by decide) rfl ?_
  refine qr_iload_n 21 rfl rfl rfl ?_
  refine qr_iastore 22 rfl (by decide) rfl (by omega) (by decide) rfl ?_
  refine qy_wA (qw_r α 43 (qzu (α 43) ((σ 42 1) : Int).toNat 31)) rfl (fun α2 e3 => ?_)
  have hI4 : qI σ α2 κ ρ := by rw [e3]; exact qI_r hI 43 _ rfl (show (-2147483648) ≤ 31 ∧ 31 ≤ 2147483647 by omega)
  have hF5 : qFr [(42, 1)] [43] σ α σ α2 := by rw [e3]; exact qFr_r hF0 43 _ (by decide)
  refine qr_aload_n 23 rfl rfl rfl ?_
  refine qr_dup 24 rfl rfl rfl ?_
  refine qr_get 27 rfl rfl rfl (by decide) rfl ?_
  refine qr_iconst 28 rfl rfl ?_
  refine qr_iadd 29 rfl rfl ?_
  refine qr_put 32 rfl (by decide) rfl (Nat.le_of_ble_eq_true rfl) (Nat.le_of_ble_eq_true rfl) (Or.inl rfl) (qr_fitI rfl _) rfl ?_
  refine qy_wS (qw_s σ 42 1 ((σ 42 1) + 1)) rfl (fun σ6 e7 => ?_)
  have hI8 : qI σ6 α2 κ ρ := by rw [e7]; exact qI_s hI4 42 1 rfl (show (-2147483648) ≤ ((σ 42 1) + 1) ∧ ((σ 42 1) + 1) ≤ 2147483647 by omega)
  have hF9 : qFr [(42, 1)] [43] σ α σ6 α2 := by rw [e7]; exact qFr_s hF5 42 1 _ (by decide)
  refine qr_getst 35 rfl rfl ?_
  refine qr_iload_n 36 rfl rfl rfl ?_
  refine qr_iaload 37 rfl rfl (by decide) (by decide) rfl ?_
  refine qy_v 1 (by decide) ?_
  refine qr_istore _ 39 rfl (by decide) rfl rfl ?_
  refine qr_iload_n 40 rfl rfl rfl ?_
  refine qr_look (off := 194) 234 rfl (by omega) (by decide) (by decide) rfl ?_
  refine qr_aload_n 235 rfl rfl rfl ?_
  refine qr_iload 237 rfl rfl rfl ?_
  refine qr_iload_n 238 rfl rfl rfl ?_
  refine qr_iconst 239 rfl rfl ?_
  refine qr_iload 241 rfl rfl rfl ?_
  refine qr_iconst 242 rfl rfl ?_
  refine qr_iadd 243 rfl rfl ?_
  refine qy_canE (fun v10 hv10 hev10 => ?_)
  refine qr_iload 245 rfl rfl rfl ?_
  refine qr_iload 247 rfl rfl rfl ?_
  have hr11 : σ6 42 1 = ((σ 42 1) + 1) := (congrFun (congrFun e7 42) 1).trans rfl
  have hs12 : (-2147483648) ≤ σ6 42 1 ∧ σ6 42 1 ≤ 2147483647 := hI8.1 42 1
  have hs13 : σ6 42 1 = ((σ 42 1) + 1) := (congrFun (congrFun e7 42) 1).trans rfl
  refine qr_callN 250 rfl rfl rfl (sf_152_42ef1_2_0 (d := d + 0) hI8 hv10 r5 r6 (by omega)) ?_
  rintro _ _ ⟨σ18, α19, rfl, hI20, hG21, hw17, v14, rfl, hv14, hx15, hx16⟩
  have hF22 : qFr [(42, 1)] [43] σ α σ18 α19 := qFr_t hF9 hG21 (by decide) (by decide)
  have hs23 : (-2147483648) ≤ σ18 42 1 ∧ σ18 42 1 ≤ 2147483647 := hI20.1 42 1
  show qr_W (qe L xs vb) (d + 4) qx_e153 _ (250, _, [.int (qz v14)], qw σ18 α19 κ ρ, 0, 0)
  refine qr_retI rfl rfl (by decide) (by decide) ?_
  exact ⟨_, _, rfl, hI20, hF22, (by have hw : σ18 42 1 = (σ18 42 1) := rfl; omega), v14, rfl, hv14, (hx15.trans (by rw [show v10 = qac_a _ 1 from qac_v hev10 (by omega)])), (by rw [hx16, show α2 43 = qzu (α 43) (σ 42 1 : Int).toNat 31 from ((congrFun e3 43).trans (qw_r_eq.trans (congrArg (fun f => qzu f ((σ 42 1) : Int).toNat 31) rfl))), show σ6 42 1 = σ 42 1 + 1 by omega]; rfl)⟩
end
section
set_option maxHeartbeats 4000000 in
set_option maxRecDepth 20000 in
/-- OneRoof$Acts.runFrom -/
theorem sf_152_42ef2_2_0 {L : Nat} {xs : Nat → Int} {vb : Bool} {d : Nat} {σ α : Nat → Nat → Int} {κ : Nat → Option Nat} {ρ : Nat} {x4 : Int} {x5 : Int} {x6 : Int} (hI : qI σ α κ ρ) (r4 : (-2147483648) ≤ x4 ∧ x4 ≤ 2147483647) (r5 : (-2147483648) ≤ x5 ∧ x5 ≤ 2147483647) (r6 : 0 ≤ x6 ∧ x6 ≤ 37) (p0 : 0 ≤ σ 42 1 ∧ σ 42 1 ≤ 21) : qm_T (qe L xs vb) (d + 6) 152 [.ref 42, .int (qz 2), .int (qz 2), .int (qz 0), .int (qz x4), .int (qz x5), .int (qz x6)] (qw σ α κ ρ) (fun r w' => ∃ σ' α', w' = qw σ' α' κ ρ ∧ qI σ' α' κ ρ ∧ qFr [(42, 1)] [43] σ α σ' α' ∧ σ' 42 1 = σ 42 1 + 3 ∧ ∃ v : Int, r = some (.int (qz v)) ∧ ((-2147483648) ≤ v ∧ v ≤ 2147483647) ∧ v = qac_a (qac_a (qac_a x4 1) x5) 3 ∧ α' 43 = qac_t [31, 20, 1] (α 43) (σ 42 1)) := by
  refine qr_start (d := d + 5) qv_e152 (Nat.le_of_ble_eq_true rfl) ?_
  show qr_W (qe L xs vb) (d + 5) qx_e152 _ (0, [(0, .ref 42), (1, .int (qz 2)), (2, .int (qz 2)), (3, .int (qz 0)), (4, .int (qz x4)), (5, .int (qz x5)), (6, .int (qz x6))], [], _, 0, 0)
  have hF0 := qFr_rf [(42, 1)] [43] σ α
  have hz42_1 : (-2147483648) ≤ σ 42 1 ∧ σ 42 1 ≤ 2147483647 := hI.1 42 1
  refine qr_iload_n 1 rfl rfl rfl ?_
  refine qr_istore _ 3 rfl (by decide) rfl rfl ?_
  refine qr_iconst 4 rfl rfl ?_
  refine qr_istore _ 6 rfl (by decide) rfl rfl ?_
  refine qr_iload 8 rfl rfl rfl ?_
  refine qr_getst 11 rfl rfl ?_
  refine qr_alen 12 rfl rfl (by first | exact Or.inl (by decide) | exact Or.inr (Or.inl rfl) | exact Or.inr (Or.inr (Or.inl rfl)) | exact Or.inr (Or.inr (Or.inr (Or.inl rfl)))) rfl ?_
  refine qy_v 7 rfl ?_
  refine qr_icmp_ge 89 15 rfl rfl rfl (by decide) (by decide) (fun h => False.elim (by omega)) (fun h1 => ?_)
  refine qr_iload 17 rfl rfl rfl ?_
  refine qr_if_lt 89 20 rfl rfl rfl (by decide) (fun h => False.elim (by omega)) (fun h2 => ?_)
  refine qr_iload 22 rfl rfl rfl ?_
  refine qr_getst 25 rfl rfl ?_
  refine qr_alen 26 rfl rfl (by first | exact Or.inl (by decide) | exact Or.inr (Or.inl rfl) | exact Or.inr (Or.inr (Or.inl rfl)) | exact Or.inr (Or.inr (Or.inr (Or.inl rfl)))) rfl ?_
  refine qy_v 7 rfl ?_
  refine qr_icmp_ge 89 29 rfl rfl rfl (by decide) (by decide) (fun h => False.elim (by omega)) (fun h3 => ?_)
  refine qr_getst 32 rfl rfl ?_
  refine qr_iload 34 rfl rfl rfl ?_
  refine qr_iconst 35 rfl rfl ?_
  refine qr_imul 36 rfl rfl ?_
  refine qy_v 8 rfl ?_
  refine qr_iload_n 37 rfl rfl rfl ?_
  refine qr_iadd 38 rfl rfl ?_
  refine qy_v 8 rfl ?_
  refine qr_iaload 39 rfl rfl (by decide) (by decide) rfl ?_
  refine qy_v 31 (by decide) ?_
  refine qr_istore _ 41 rfl (by decide) rfl rfl ?_
  refine qr_iload 43 rfl rfl rfl ?_
  refine qr_if_eq 75 46 rfl rfl rfl (by decide) (fun h => False.elim (by omega)) (fun h4 => ?_)
  refine qr_iload 48 rfl rfl rfl ?_
  refine qr_bipush 50 rfl (by decide) rfl ?_
  refine qr_icmp_le 57 53 rfl rfl rfl (qrg r6 (by decide) (by decide)) (by decide) (fun h5 => ?_) (fun h => False.elim (by omega))
  refine qr_aload_n 58 rfl rfl rfl ?_
  refine qr_iload 60 rfl rfl rfl ?_
  refine qr_iload 62 rfl rfl rfl ?_
  refine qr_iload_n 63 rfl rfl rfl ?_
  refine qr_iload 65 rfl rfl rfl ?_
  refine qr_iload 67 rfl rfl rfl ?_
  refine qr_iload 69 rfl rfl rfl ?_
  refine qr_iconst 70 rfl rfl ?_
  refine qr_iadd 71 rfl rfl ?_
  have hs6 : (-2147483648) ≤ σ 42 1 ∧ σ 42 1 ≤ 2147483647 := hI.1 42 1
  refine qr_callN 74 rfl rfl rfl (sf_153_42eb31_2_2 (d := d + 0) hI r4 r5 (by omega) (by omega)) ?_
  rintro _ _ ⟨σ11, α12, rfl, hI13, hG14, hw10, v7, rfl, hv7, hx8, hx9⟩
  have hF15 : qFr [(42, 1)] [43] σ α σ11 α12 := qFr_t hF0 hG14 (by decide) (by decide)
  have hs16 : (-2147483648) ≤ σ11 42 1 ∧ σ11 42 1 ≤ 2147483647 := hI13.1 42 1
  show qr_W (qe L xs vb) (d + 5) qx_e152 _ (74, _, [.int (qz v7)], qw σ11 α12 κ ρ, 0, 0)
  refine qr_retI rfl rfl (by decide) (by decide) ?_
  exact ⟨_, _, rfl, hI13, hF15, (by have hw : σ11 42 1 = (σ11 42 1) := rfl; omega), v7, rfl, hv7, hx8, hx9⟩

set_option maxHeartbeats 4000000 in
set_option maxRecDepth 20000 in
/-- OneRoof$Acts.run -/
theorem sf_151_42er2_0 {L : Nat} {xs : Nat → Int} {vb : Bool} {d : Nat} {σ α : Nat → Nat → Int} {κ : Nat → Option Nat} {ρ : Nat} {x3 : Int} {x4 : Int} {x5 : Int} (hI : qI σ α κ ρ) (r3 : (-2147483648) ≤ x3 ∧ x3 ≤ 2147483647) (r4 : (-2147483648) ≤ x4 ∧ x4 ≤ 2147483647) (r5 : 0 ≤ x5 ∧ x5 ≤ 37) (p0 : 0 ≤ σ 42 1 ∧ σ 42 1 ≤ 21) : qm_T (qe L xs vb) (d + 7) 151 [.ref 42, .int (qz 2), .int (qz 0), .int (qz x3), .int (qz x4), .int (qz x5)] (qw σ α κ ρ) (fun r w' => ∃ σ' α', w' = qw σ' α' κ ρ ∧ qI σ' α' κ ρ ∧ qFr [(42, 1)] [43] σ α σ' α' ∧ σ' 42 1 = σ 42 1 + 3 ∧ ∃ v : Int, r = some (.int (qz v)) ∧ ((-2147483648) ≤ v ∧ v ≤ 2147483647) ∧ v = qac_a (qac_a (qac_a x3 1) x4) 3 ∧ α' 43 = qac_t [31, 20, 1] (α 43) (σ 42 1)) := by
  refine qr_start (d := d + 6) qv_e151 (Nat.le_of_ble_eq_true rfl) ?_
  show qr_W (qe L xs vb) (d + 6) qx_e151 _ (0, [(0, .ref 42), (1, .int (qz 2)), (2, .int (qz 0)), (3, .int (qz x3)), (4, .int (qz x4)), (5, .int (qz x5))], [], _, 0, 0)
  have hF0 := qFr_rf [(42, 1)] [43] σ α
  have hz42_1 : (-2147483648) ≤ σ 42 1 ∧ σ 42 1 ≤ 2147483647 := hI.1 42 1
  refine qr_aload_n 1 rfl rfl rfl ?_
  refine qr_iload_n 2 rfl rfl rfl ?_
  refine qr_iload_n 3 rfl rfl rfl ?_
  refine qr_iload_n 4 rfl rfl rfl ?_
  refine qr_iload_n 5 rfl rfl rfl ?_
  refine qr_iload 7 rfl rfl rfl ?_
  refine qr_iload 9 rfl rfl rfl ?_
  have hs1 : (-2147483648) ≤ σ 42 1 ∧ σ 42 1 ≤ 2147483647 := hI.1 42 1
  refine qr_callN 12 rfl rfl rfl (sf_152_42ef2_2_0 (d := d + 0) hI r3 r4 r5 (by omega)) ?_
  rintro _ _ ⟨σ6, α7, rfl, hI8, hG9, hw5, v2, rfl, hv2, hx3, hx4⟩
  have hF10 : qFr [(42, 1)] [43] σ α σ6 α7 := qFr_t hF0 hG9 (by decide) (by decide)
  have hs11 : (-2147483648) ≤ σ6 42 1 ∧ σ6 42 1 ≤ 2147483647 := hI8.1 42 1
  show qr_W (qe L xs vb) (d + 6) qx_e151 _ (12, _, [.int (qz v2)], qw σ6 α7 κ ρ, 0, 0)
  refine qr_retI rfl rfl (by decide) (by decide) ?_
  exact ⟨_, _, rfl, hI8, hF10, (by have hw : σ6 42 1 = (σ6 42 1) := rfl; omega), v2, rfl, hv2, hx3, hx4⟩

set_option maxHeartbeats 4000000 in
set_option maxRecDepth 20000 in
/-- OneRoof$Acts.start -/
theorem sf_150_42es2_0 {L : Nat} {xs : Nat → Int} {vb : Bool} {d : Nat} {σ α : Nat → Nat → Int} {κ : Nat → Option Nat} {ρ : Nat} {x3 : Int} {x4 : Int} (hI : qI σ α κ ρ) (r3 : (-2147483648) ≤ x3 ∧ x3 ≤ 2147483647) (r4 : (-2147483648) ≤ x4 ∧ x4 ≤ 2147483647) (p0 : 0 ≤ σ 42 1 ∧ σ 42 1 ≤ 21) : qm_T (qe L xs vb) (d + 8) 150 [.ref 42, .int (qz 2), .int (qz 0), .int (qz x3), .int (qz x4)] (qw σ α κ ρ) (fun r w' => ∃ σ' α', w' = qw σ' α' κ ρ ∧ qI σ' α' κ ρ ∧ qFr [(42, 1)] [43] σ α σ' α' ∧ σ' 42 1 = σ 42 1 + 3 ∧ ∃ v : Int, r = some (.int (qz v)) ∧ ((-2147483648) ≤ v ∧ v ≤ 2147483647) ∧ v = qac_a (qac_a (qac_a x3 1) x4) 3 ∧ α' 43 = qac_t [31, 20, 1] (α 43) (σ 42 1)) := by
  refine qr_start (d := d + 7) qv_e150 (Nat.le_of_ble_eq_true rfl) ?_
  show qr_W (qe L xs vb) (d + 7) qx_e150 _ (0, [(0, .ref 42), (1, .int (qz 2)), (2, .int (qz 0)), (3, .int (qz x3)), (4, .int (qz x4))], [], _, 0, 0)
  have hF0 := qFr_rf [(42, 1)] [43] σ α
  have hz42_1 : (-2147483648) ≤ σ 42 1 ∧ σ 42 1 ≤ 2147483647 := hI.1 42 1
  refine qr_aload_n 1 rfl rfl rfl ?_
  refine qr_iload_n 2 rfl rfl rfl ?_
  refine qr_iload_n 3 rfl rfl rfl ?_
  refine qr_iload_n 4 rfl rfl rfl ?_
  refine qr_iload 6 rfl rfl rfl ?_
  refine qr_iconst 7 rfl rfl ?_
  have hs1 : (-2147483648) ≤ σ 42 1 ∧ σ 42 1 ≤ 2147483647 := hI.1 42 1
  refine qr_callN 10 rfl rfl rfl (sf_151_42er2_0 (d := d + 0) hI r3 r4 (by decide) (by omega)) ?_
  rintro _ _ ⟨σ6, α7, rfl, hI8, hG9, hw5, v2, rfl, hv2, hx3, hx4⟩
  have hF10 : qFr [(42, 1)] [43] σ α σ6 α7 := qFr_t hF0 hG9 (by decide) (by decide)
  have hs11 : (-2147483648) ≤ σ6 42 1 ∧ σ6 42 1 ≤ 2147483647 := hI8.1 42 1
  show qr_W (qe L xs vb) (d + 7) qx_e150 _ (10, _, [.int (qz v2)], qw σ6 α7 κ ρ, 0, 0)
  refine qr_retI rfl rfl (by decide) (by decide) ?_
  exact ⟨_, _, rfl, hI8, hF10, (by have hw : σ6 42 1 = (σ6 42 1) := rfl; omega), v2, rfl, hv2, hx3, hx4⟩

set_option maxHeartbeats 4000000 in
set_option maxRecDepth 20000 in
/-- OneRoof$Acts.begin -/
theorem sf_153_42eb10_0_2 {L : Nat} {xs : Nat → Int} {vb : Bool} {d : Nat} {σ α : Nat → Nat → Int} {κ : Nat → Option Nat} {ρ : Nat} {x4 : Int} {x5 : Int} {x6 : Int} (hI : qI σ α κ ρ) (r4 : (-2147483648) ≤ x4 ∧ x4 ≤ 2147483647) (r5 : (-2147483648) ≤ x5 ∧ x5 ≤ 2147483647) (r6 : 0 ≤ x6 ∧ x6 ≤ 37) (p0 : 0 ≤ σ 42 1 ∧ σ 42 1 ≤ 20) : qm_T (qe L xs vb) (d + 8) 153 [.ref 42, .int (qz 10), .int (qz 0), .int (qz 2), .int (qz x4), .int (qz x5), .int (qz x6)] (qw σ α κ ρ) (fun r w' => ∃ σ' α', w' = qw σ' α' κ ρ ∧ qI σ' α' κ ρ ∧ qFr [(42, 1)] [43] σ α σ' α' ∧ σ' 42 1 = σ 42 1 + 4 ∧ ∃ v : Int, r = some (.int (qz v)) ∧ ((-2147483648) ≤ v ∧ v ≤ 2147483647) ∧ v = qac_m (qac_a (qac_a (qac_a x4 1) x5) 3) 2 ∧ α' 43 = qac_t [10, 31, 20, 1] (α 43) (σ 42 1)) := by
  refine qr_start (d := d + 7) qv_e153 (Nat.le_of_ble_eq_true rfl) ?_
  show qr_W (qe L xs vb) (d + 7) qx_e153 _ (0, [(0, .ref 42), (1, .int (qz 10)), (2, .int (qz 0)), (3, .int (qz 2)), (4, .int (qz x4)), (5, .int (qz x5)), (6, .int (qz x6))], [], _, 0, 0)
  have hF0 := qFr_rf [(42, 1)] [43] σ α
  have hz42_1 : (-2147483648) ≤ σ 42 1 ∧ σ 42 1 ≤ 2147483647 := hI.1 42 1
  refine qr_aload_n 1 rfl rfl rfl ?_
  refine qr_get 4 rfl rfl rfl (by decide) rfl ?_
  refine qr_aload_n 5 rfl rfl rfl ?_
  refine qr_get 8 rfl rfl rfl (by decide) rfl ?_
  refine qr_alen 9 rfl rfl (by first | exact Or.inl (by decide) | exact Or.inr (Or.inl rfl) | exact Or.inr (Or.inr (Or.inl rfl)) | exact Or.inr (Or.inr (Or.inr (Or.inl rfl)))) rfl ?_
  refine qy_v 24 rfl ?_
  refine qr_icmp_ge 22 12 rfl rfl rfl hz42_1 (by decide) (fun h => False.elim (by omega)) (fun h1 => ?_)
  refine qr_aload_n 13 rfl rfl rfl ?_
  refine qr_get 16 rfl rfl rfl (by decide) rfl ?_
  refine qr_aload_n 17 rfl rfl rfl ?_
  refine qr_get 20 rfl rfl rfl (by decide) rfl ?_
  refine qr_iload_n 21 rfl rfl rfl ?_
  refine qr_iastore 22 rfl (by decide) rfl (by omega) (by decide) rfl ?_
  refine qy_wA (qw_r α 43 (qzu (α 43) ((σ 42 1) : Int).toNat 10)) rfl (fun α2 e3 => ?_)
  have hI4 : qI σ α2 κ ρ := by rw [e3]; exact qI_r hI 43 _ rfl (show (-2147483648) ≤ 10 ∧ 10 ≤ 2147483647 by omega)
  have hF5 : qFr [(42, 1)] [43] σ α σ α2 := by rw [e3]; exact qFr_r hF0 43 _ (by decide)
  refine qr_aload_n 23 rfl rfl rfl ?_
  refine qr_dup 24 rfl rfl rfl ?_
  refine qr_get 27 rfl rfl rfl (by decide) rfl ?_
  refine qr_iconst 28 rfl rfl ?_
  refine qr_iadd 29 rfl rfl ?_
  refine qr_put 32 rfl (by decide) rfl (Nat.le_of_ble_eq_true rfl) (Nat.le_of_ble_eq_true rfl) (Or.inl rfl) (qr_fitI rfl _) rfl ?_
  refine qy_wS (qw_s σ 42 1 ((σ 42 1) + 1)) rfl (fun σ6 e7 => ?_)
  have hI8 : qI σ6 α2 κ ρ := by rw [e7]; exact qI_s hI4 42 1 rfl (show (-2147483648) ≤ ((σ 42 1) + 1) ∧ ((σ 42 1) + 1) ≤ 2147483647 by omega)
  have hF9 : qFr [(42, 1)] [43] σ α σ6 α2 := by rw [e7]; exact qFr_s hF5 42 1 _ (by decide)
  refine qr_getst 35 rfl rfl ?_
  refine qr_iload_n 36 rfl rfl rfl ?_
  refine qr_iaload 37 rfl rfl (by decide) (by decide) rfl ?_
  refine qy_v (-1) (by decide) ?_
  refine qr_istore _ 39 rfl (by decide) rfl rfl ?_
  refine qr_iload_n 40 rfl rfl rfl ?_
  refine qr_look (off := 139) 179 rfl (by omega) (by decide) (by decide) rfl ?_
  refine qr_aload_n 180 rfl rfl rfl ?_
  refine qr_iload_n 181 rfl rfl rfl ?_
  refine qr_iconst 182 rfl rfl ?_
  refine qr_iload 184 rfl rfl rfl ?_
  refine qr_iload 186 rfl rfl rfl ?_
  refine qr_iload 188 rfl rfl rfl ?_
  have hr10 : σ6 42 1 = ((σ 42 1) + 1) := (congrFun (congrFun e7 42) 1).trans rfl
  have hs11 : (-2147483648) ≤ σ6 42 1 ∧ σ6 42 1 ≤ 2147483647 := hI8.1 42 1
  have hs12 : σ6 42 1 = ((σ 42 1) + 1) := (congrFun (congrFun e7 42) 1).trans rfl
  refine qr_callN 191 rfl rfl rfl (sf_151_42er2_0 (d := d + 0) hI8 r4 r5 r6 (by omega)) ?_
  rintro _ _ ⟨σ17, α18, rfl, hI19, hG20, hw16, v13, rfl, hv13, hx14, hx15⟩
  have hF21 : qFr [(42, 1)] [43] σ α σ17 α18 := qFr_t hF9 hG20 (by decide) (by decide)
  have hs22 : (-2147483648) ≤ σ17 42 1 ∧ σ17 42 1 ≤ 2147483647 := hI19.1 42 1
  show qr_W (qe L xs vb) (d + 7) qx_e153 _ (191, _, [.int (qz v13)], qw σ17 α18 κ ρ, 0, 0)
  refine qr_iconst 192 rfl rfl ?_
  refine qr_imul 193 rfl rfl ?_
  refine qy_canE (fun v23 hv23 hev23 => ?_)
  refine qr_retI rfl rfl (by decide) (by decide) ?_
  exact ⟨_, _, rfl, hI19, hF21, (by have hw : σ17 42 1 = (σ17 42 1) := rfl; omega), v23, rfl, hv23, ((qac_v hev23 (by omega)).trans (by rw [hx14]; rfl)), (by rw [hx15, show α2 43 = qzu (α 43) (σ 42 1 : Int).toNat 10 from ((congrFun e3 43).trans (qw_r_eq.trans (congrArg (fun f => qzu f ((σ 42 1) : Int).toNat 10) rfl))), show σ6 42 1 = σ 42 1 + 1 by omega]; rfl)⟩

set_option maxHeartbeats 4000000 in
set_option maxRecDepth 20000 in
/-- OneRoof$Acts.runFrom -/
theorem sf_152_42ef2_2_1 {L : Nat} {xs : Nat → Int} {vb : Bool} {d : Nat} {σ α : Nat → Nat → Int} {κ : Nat → Option Nat} {ρ : Nat} {x4 : Int} {x5 : Int} {x6 : Int} (hI : qI σ α κ ρ) (r4 : (-2147483648) ≤ x4 ∧ x4 ≤ 2147483647) (r5 : (-2147483648) ≤ x5 ∧ x5 ≤ 2147483647) (r6 : 0 ≤ x6 ∧ x6 ≤ 36) (p0 : 0 ≤ σ 42 1 ∧ σ 42 1 ≤ 20) : qm_T (qe L xs vb) (d + 9) 152 [.ref 42, .int (qz 2), .int (qz 2), .int (qz 1), .int (qz x4), .int (qz x5), .int (qz x6)] (qw σ α κ ρ) (fun r w' => ∃ σ' α', w' = qw σ' α' κ ρ ∧ qI σ' α' κ ρ ∧ qFr [(42, 1)] [43] σ α σ' α' ∧ σ' 42 1 = σ 42 1 + 4 ∧ ∃ v : Int, r = some (.int (qz v)) ∧ ((-2147483648) ≤ v ∧ v ≤ 2147483647) ∧ v = qac_m (qac_a (qac_a (qac_a x4 1) x5) 3) 2 ∧ α' 43 = qac_t [10, 31, 20, 1] (α 43) (σ 42 1)) := by
  refine qr_start (d := d + 8) qv_e152 (Nat.le_of_ble_eq_true rfl) ?_
  show qr_W (qe L xs vb) (d + 8) qx_e152 _ (0, [(0, .ref 42), (1, .int (qz 2)), (2, .int (qz 2)), (3, .int (qz 1)), (4, .int (qz x4)), (5, .int (qz x5)), (6, .int (qz x6))], [], _, 0, 0)
  have hF0 := qFr_rf [(42, 1)] [43] σ α
  have hz42_1 : (-2147483648) ≤ σ 42 1 ∧ σ 42 1 ≤ 2147483647 := hI.1 42 1
  refine qr_iload_n 1 rfl rfl rfl ?_
  refine qr_istore _ 3 rfl (by decide) rfl rfl ?_
  refine qr_iconst 4 rfl rfl ?_
  refine qr_istore _ 6 rfl (by decide) rfl rfl ?_
  refine qr_iload 8 rfl rfl rfl ?_
  refine qr_getst 11 rfl rfl ?_
  refine qr_alen 12 rfl rfl (by first | exact Or.inl (by decide) | exact Or.inr (Or.inl rfl) | exact Or.inr (Or.inr (Or.inl rfl)) | exact Or.inr (Or.inr (Or.inr (Or.inl rfl)))) rfl ?_
  refine qy_v 7 rfl ?_
  refine qr_icmp_ge 89 15 rfl rfl rfl (by decide) (by decide) (fun h => False.elim (by omega)) (fun h1 => ?_)
  refine qr_iload 17 rfl rfl rfl ?_
  refine qr_if_lt 89 20 rfl rfl rfl (by decide) (fun h => False.elim (by omega)) (fun h2 => ?_)
  refine qr_iload 22 rfl rfl rfl ?_
  refine qr_getst 25 rfl rfl ?_
  refine qr_alen 26 rfl rfl (by first | exact Or.inl (by decide) | exact Or.inr (Or.inl rfl) | exact Or.inr (Or.inr (Or.inl rfl)) | exact Or.inr (Or.inr (Or.inr (Or.inl rfl)))) rfl ?_
  refine qy_v 7 rfl ?_
  refine qr_icmp_ge 89 29 rfl rfl rfl (by decide) (by decide) (fun h => False.elim (by omega)) (fun h3 => ?_)
  refine qr_getst 32 rfl rfl ?_
  refine qr_iload 34 rfl rfl rfl ?_
  refine qr_iconst 35 rfl rfl ?_
  refine qr_imul 36 rfl rfl ?_
  refine qy_v 8 rfl ?_
  refine qr_iload_n 37 rfl rfl rfl ?_
  refine qr_iadd 38 rfl rfl ?_
  refine qy_v 9 rfl ?_
  refine qr_iaload 39 rfl rfl (by decide) (by decide) rfl ?_
  refine qy_v 0 (by decide) ?_
  refine qr_istore _ 41 rfl (by decide) rfl rfl ?_
  refine qr_iload 43 rfl rfl rfl ?_
  refine qr_if_eq 75 46 rfl rfl rfl (by decide) (fun h4 => ?_) (fun h => False.elim (by omega))
  refine qr_getst 78 rfl rfl ?_
  refine qr_iload 80 rfl rfl rfl ?_
  refine qr_iaload 81 rfl rfl (by decide) (by decide) rfl ?_
  refine qy_v 1 (by decide) ?_
  refine qr_istore _ 83 rfl (by decide) rfl rfl ?_
  refine qr_iinc _ 86 rfl rfl (by decide) rfl rfl ?_
  refine qr_goto 6 rfl rfl ?_
  refine qr_iload 8 rfl rfl rfl ?_
  refine qr_getst 11 rfl rfl ?_
  refine qr_alen 12 rfl rfl (by first | exact Or.inl (by decide) | exact Or.inr (Or.inl rfl) | exact Or.inr (Or.inr (Or.inl rfl)) | exact Or.inr (Or.inr (Or.inr (Or.inl rfl)))) rfl ?_
  refine qy_v 7 rfl ?_
  refine qr_icmp_ge 89 15 rfl rfl rfl (by omega) (by decide) (fun h => False.elim (by omega)) (fun h5 => ?_)
  refine qr_iload 17 rfl rfl rfl ?_
  refine qr_if_lt 89 20 rfl rfl rfl (by decide) (fun h => False.elim (by omega)) (fun h6 => ?_)
  refine qr_iload 22 rfl rfl rfl ?_
  refine qr_getst 25 rfl rfl ?_
  refine qr_alen 26 rfl rfl (by first | exact Or.inl (by decide) | exact Or.inr (Or.inl rfl) | exact Or.inr (Or.inr (Or.inl rfl)) | exact Or.inr (Or.inr (Or.inr (Or.inl rfl)))) rfl ?_
  refine qy_v 7 rfl ?_
  refine qr_icmp_ge 89 29 rfl rfl rfl (by decide) (by decide) (fun h => False.elim (by omega)) (fun h7 => ?_)
  refine qr_getst 32 rfl rfl ?_
  refine qr_iload 34 rfl rfl rfl ?_
  refine qr_iconst 35 rfl rfl ?_
  refine qr_imul 36 rfl rfl ?_
  refine qy_v 4 rfl ?_
  refine qr_iload_n 37 rfl rfl rfl ?_
  refine qr_iadd 38 rfl rfl ?_
  refine qy_v 5 rfl ?_
  refine qr_iaload 39 rfl rfl (by decide) (by decide) rfl ?_
  refine qy_v 0 (by decide) ?_
  refine qr_istore _ 41 rfl (by decide) rfl rfl ?_
  refine qr_iload 43 rfl rfl rfl ?_
  refine qr_if_eq 75 46 rfl rfl rfl (by decide) (fun h8 => ?_) (fun h => False.elim (by omega))
  as_aux_lemma =>
    refine qr_getst 78 rfl rfl ?_
    refine qr_iload 80 rfl rfl rfl ?_
    refine qr_iaload 81 rfl rfl (by decide) (by decide) rfl ?_
    refine qy_v 0 (by decide) ?_
    refine qr_istore _ 83 rfl (by decide) rfl rfl ?_
    refine qr_iinc _ 86 rfl rfl (by decide) rfl rfl ?_
    refine qr_goto 6 rfl rfl ?_
    refine qr_iload 8 rfl rfl rfl ?_
    refine qr_getst 11 rfl rfl ?_
    refine qr_alen 12 rfl rfl (by first | exact Or.inl (by decide) | exact Or.inr (Or.inl rfl) | exact Or.inr (Or.inr (Or.inl rfl)) | exact Or.inr (Or.inr (Or.inr (Or.inl rfl)))) rfl ?_
    refine qy_v 7 rfl ?_
    refine qr_icmp_ge 89 15 rfl rfl rfl (by omega) (by decide) (fun h => False.elim (by omega)) (fun h9 => ?_)
    refine qr_iload 17 rfl rfl rfl ?_
    refine qr_if_lt 89 20 rfl rfl rfl (by decide) (fun h => False.elim (by omega)) (fun h10 => ?_)
    refine qr_iload 22 rfl rfl rfl ?_
    refine qr_getst 25 rfl rfl ?_
    refine qr_alen 26 rfl rfl (by first | exact Or.inl (by decide) | exact Or.inr (Or.inl rfl) | exact Or.inr (Or.inr (Or.inl rfl)) | exact Or.inr (Or.inr (Or.inr (Or.inl rfl)))) rfl ?_
    refine qy_v 7 rfl ?_
    refine qr_icmp_ge 89 29 rfl rfl rfl (by decide) (by decide) (fun h => False.elim (by omega)) (fun h11 => ?_)
    refine qr_getst 32 rfl rfl ?_
    refine qr_iload 34 rfl rfl rfl ?_
    refine qr_iconst 35 rfl rfl ?_
    refine qr_imul 36 rfl rfl ?_
    refine qy_v 0 rfl ?_
    refine qr_iload_n 37 rfl rfl rfl ?_
    refine qr_iadd 38 rfl rfl ?_
    refine qy_v 1 rfl ?_
    refine qr_iaload 39 rfl rfl (by decide) (by decide) rfl ?_
    refine qy_v 10 (by decide) ?_
    refine qr_istore _ 41 rfl (by decide) rfl rfl ?_
    refine qr_iload 43 rfl rfl rfl ?_
    refine qr_if_eq 75 46 rfl rfl rfl (by decide) (fun h => False.elim (by omega)) (fun h12 => ?_)
    refine qr_iload 48 rfl rfl rfl ?_
    refine qr_bipush 50 rfl (by decide) rfl ?_
    refine qr_icmp_le 57 53 rfl rfl rfl (qrg r6 (by decide) (by decide)) (by decide) (fun h13 => ?_) (fun h => False.elim (by omega))
    refine qr_aload_n 58 rfl rfl rfl ?_
    refine qr_iload 60 rfl rfl rfl ?_
    refine qr_iload 62 rfl rfl rfl ?_
    refine qr_iload_n 63 rfl rfl rfl ?_
    refine qr_iload 65 rfl rfl rfl ?_
    refine qr_iload 67 rfl rfl rfl ?_
    refine qr_iload 69 rfl rfl rfl ?_
    refine qr_iconst 70 rfl rfl ?_
    refine qr_iadd 71 rfl rfl ?_
    have hs14 : (-2147483648) ≤ σ 42 1 ∧ σ 42 1 ≤ 2147483647 := hI.1 42 1
    refine qr_callN 74 rfl rfl rfl (sf_153_42eb10_0_2 (d := d + 0) hI r4 r5 (by omega) (by omega)) ?_
    rintro _ _ ⟨σ19, α20, rfl, hI21, hG22, hw18, v15, rfl, hv15, hx16, hx17⟩
    have hF23 : qFr [(42, 1)] [43] σ α σ19 α20 := qFr_t hF0 hG22 (by decide) (by decide)
    have hs24 : (-2147483648) ≤ σ19 42 1 ∧ σ19 42 1 ≤ 2147483647 := hI21.1 42 1
    show qr_W (qe L xs vb) (d + 8) qx_e152 _ (74, _, [.int (qz v15)], qw σ19 α20 κ ρ, 0, 0)
    refine qr_retI rfl rfl (by decide) (by decide) ?_
    exact ⟨_, _, rfl, hI21, hF23, (by have hw : σ19 42 1 = (σ19 42 1) := rfl; omega), v15, rfl, hv15, hx16, hx17⟩

set_option maxHeartbeats 4000000 in
set_option maxRecDepth 20000 in
/-- OneRoof$Acts.run -/
theorem sf_151_42er2_1 {L : Nat} {xs : Nat → Int} {vb : Bool} {d : Nat} {σ α : Nat → Nat → Int} {κ : Nat → Option Nat} {ρ : Nat} {x3 : Int} {x4 : Int} {x5 : Int} (hI : qI σ α κ ρ) (r3 : (-2147483648) ≤ x3 ∧ x3 ≤ 2147483647) (r4 : (-2147483648) ≤ x4 ∧ x4 ≤ 2147483647) (r5 : 0 ≤ x5 ∧ x5 ≤ 36) (p0 : 0 ≤ σ 42 1 ∧ σ 42 1 ≤ 20) : qm_T (qe L xs vb) (d + 10) 151 [.ref 42, .int (qz 2), .int (qz 1), .int (qz x3), .int (qz x4), .int (qz x5)] (qw σ α κ ρ) (fun r w' => ∃ σ' α', w' = qw σ' α' κ ρ ∧ qI σ' α' κ ρ ∧ qFr [(42, 1)] [43] σ α σ' α' ∧ σ' 42 1 = σ 42 1 + 4 ∧ ∃ v : Int, r = some (.int (qz v)) ∧ ((-2147483648) ≤ v ∧ v ≤ 2147483647) ∧ v = qac_m (qac_a (qac_a (qac_a x3 1) x4) 3) 2 ∧ α' 43 = qac_t [10, 31, 20, 1] (α 43) (σ 42 1)) := by
  refine qr_start (d := d + 9) qv_e151 (Nat.le_of_ble_eq_true rfl) ?_
  show qr_W (qe L xs vb) (d + 9) qx_e151 _ (0, [(0, .ref 42), (1, .int (qz 2)), (2, .int (qz 1)), (3, .int (qz x3)), (4, .int (qz x4)), (5, .int (qz x5))], [], _, 0, 0)
  have hF0 := qFr_rf [(42, 1)] [43] σ α
  have hz42_1 : (-2147483648) ≤ σ 42 1 ∧ σ 42 1 ≤ 2147483647 := hI.1 42 1
  refine qr_aload_n 1 rfl rfl rfl ?_
  refine qr_iload_n 2 rfl rfl rfl ?_
  refine qr_iload_n 3 rfl rfl rfl ?_
  refine qr_iload_n 4 rfl rfl rfl ?_
  refine qr_iload_n 5 rfl rfl rfl ?_
  refine qr_iload 7 rfl rfl rfl ?_
  refine qr_iload 9 rfl rfl rfl ?_
  have hs1 : (-2147483648) ≤ σ 42 1 ∧ σ 42 1 ≤ 2147483647 := hI.1 42 1
  refine qr_callN 12 rfl rfl rfl (sf_152_42ef2_2_1 (d := d + 0) hI r3 r4 r5 (by omega)) ?_
  rintro _ _ ⟨σ6, α7, rfl, hI8, hG9, hw5, v2, rfl, hv2, hx3, hx4⟩
  have hF10 : qFr [(42, 1)] [43] σ α σ6 α7 := qFr_t hF0 hG9 (by decide) (by decide)
  have hs11 : (-2147483648) ≤ σ6 42 1 ∧ σ6 42 1 ≤ 2147483647 := hI8.1 42 1
  show qr_W (qe L xs vb) (d + 9) qx_e151 _ (12, _, [.int (qz v2)], qw σ6 α7 κ ρ, 0, 0)
  refine qr_retI rfl rfl (by decide) (by decide) ?_
  exact ⟨_, _, rfl, hI8, hF10, (by have hw : σ6 42 1 = (σ6 42 1) := rfl; omega), v2, rfl, hv2, hx3, hx4⟩

set_option maxHeartbeats 4000000 in
set_option maxRecDepth 20000 in
/-- OneRoof$Acts.start -/
theorem sf_150_42es2_1 {L : Nat} {xs : Nat → Int} {vb : Bool} {d : Nat} {σ α : Nat → Nat → Int} {κ : Nat → Option Nat} {ρ : Nat} {x3 : Int} {x4 : Int} (hI : qI σ α κ ρ) (r3 : (-2147483648) ≤ x3 ∧ x3 ≤ 2147483647) (r4 : (-2147483648) ≤ x4 ∧ x4 ≤ 2147483647) (p0 : 0 ≤ σ 42 1 ∧ σ 42 1 ≤ 20) : qm_T (qe L xs vb) (d + 11) 150 [.ref 42, .int (qz 2), .int (qz 1), .int (qz x3), .int (qz x4)] (qw σ α κ ρ) (fun r w' => ∃ σ' α', w' = qw σ' α' κ ρ ∧ qI σ' α' κ ρ ∧ qFr [(42, 1)] [43] σ α σ' α' ∧ σ' 42 1 = σ 42 1 + 4 ∧ ∃ v : Int, r = some (.int (qz v)) ∧ ((-2147483648) ≤ v ∧ v ≤ 2147483647) ∧ v = qac_m (qac_a (qac_a (qac_a x3 1) x4) 3) 2 ∧ α' 43 = qac_t [10, 31, 20, 1] (α 43) (σ 42 1)) := by
  refine qr_start (d := d + 10) qv_e150 (Nat.le_of_ble_eq_true rfl) ?_
  show qr_W (qe L xs vb) (d + 10) qx_e150 _ (0, [(0, .ref 42), (1, .int (qz 2)), (2, .int (qz 1)), (3, .int (qz x3)), (4, .int (qz x4))], [], _, 0, 0)
  have hF0 := qFr_rf [(42, 1)] [43] σ α
  have hz42_1 : (-2147483648) ≤ σ 42 1 ∧ σ 42 1 ≤ 2147483647 := hI.1 42 1
  refine qr_aload_n 1 rfl rfl rfl ?_
  refine qr_iload_n 2 rfl rfl rfl ?_
  refine qr_iload_n 3 rfl rfl rfl ?_
  refine qr_iload_n 4 rfl rfl rfl ?_
  refine qr_iload 6 rfl rfl rfl ?_
  refine qr_iconst 7 rfl rfl ?_
  have hs1 : (-2147483648) ≤ σ 42 1 ∧ σ 42 1 ≤ 2147483647 := hI.1 42 1
  refine qr_callN 10 rfl rfl rfl (sf_151_42er2_1 (d := d + 0) hI r3 r4 (by decide) (by omega)) ?_
  rintro _ _ ⟨σ6, α7, rfl, hI8, hG9, hw5, v2, rfl, hv2, hx3, hx4⟩
  have hF10 : qFr [(42, 1)] [43] σ α σ6 α7 := qFr_t hF0 hG9 (by decide) (by decide)
  have hs11 : (-2147483648) ≤ σ6 42 1 ∧ σ6 42 1 ≤ 2147483647 := hI8.1 42 1
  show qr_W (qe L xs vb) (d + 10) qx_e150 _ (10, _, [.int (qz v2)], qw σ6 α7 κ ρ, 0, 0)
  refine qr_retI rfl rfl (by decide) (by decide) ?_
  exact ⟨_, _, rfl, hI8, hF10, (by have hw : σ6 42 1 = (σ6 42 1) := rfl; omega), v2, rfl, hv2, hx3, hx4⟩

set_option maxHeartbeats 4000000 in
set_option maxRecDepth 20000 in
/-- OneRoof$Acts.begin -/
theorem sf_153_42eb11_0_2 {L : Nat} {xs : Nat → Int} {vb : Bool} {d : Nat} {σ α : Nat → Nat → Int} {κ : Nat → Option Nat} {ρ : Nat} {x4 : Int} {x5 : Int} {x6 : Int} (hI : qI σ α κ ρ) (r4 : (-2147483648) ≤ x4 ∧ x4 ≤ 2147483647) (r5 : (-2147483648) ≤ x5 ∧ x5 ≤ 2147483647) (r6 : 0 ≤ x6 ∧ x6 ≤ 40) (p0 : 0 ≤ σ 42 1 ∧ σ 42 1 ≤ 23) : qm_T (qe L xs vb) (d + 1) 153 [.ref 42, .int (qz 11), .int (qz 0), .int (qz 2), .int (qz x4), .int (qz x5), .int (qz x6)] (qw σ α κ ρ) (fun r w' => ∃ σ' α', w' = qw σ' α' κ ρ ∧ qI σ' α' κ ρ ∧ qFr [(42, 1)] [43] σ α σ' α' ∧ σ' 42 1 = σ 42 1 + 1 ∧ ∃ v : Int, r = some (.int (qz v)) ∧ ((-2147483648) ≤ v ∧ v ≤ 2147483647) ∧ v = qac_x x4 x5 ∧ α' 43 = qac_t [11] (α 43) (σ 42 1)) := by
  refine qr_start (d := d + 0) qv_e153 (Nat.le_of_ble_eq_true rfl) ?_
  show qr_W (qe L xs vb) (d + 0) qx_e153 _ (0, [(0, .ref 42), (1, .int (qz 11)), (2, .int (qz 0)), (3, .int (qz 2)), (4, .int (qz x4)), (5, .int (qz x5)), (6, .int (qz x6))], [], _, 0, 0)
  have hF0 := qFr_rf [(42, 1)] [43] σ α
  have hz42_1 : (-2147483648) ≤ σ 42 1 ∧ σ 42 1 ≤ 2147483647 := hI.1 42 1
  refine qr_aload_n 1 rfl rfl rfl ?_
  refine qr_get 4 rfl rfl rfl (by decide) rfl ?_
  refine qr_aload_n 5 rfl rfl rfl ?_
  refine qr_get 8 rfl rfl rfl (by decide) rfl ?_
  refine qr_alen 9 rfl rfl (by first | exact Or.inl (by decide) | exact Or.inr (Or.inl rfl) | exact Or.inr (Or.inr (Or.inl rfl)) | exact Or.inr (Or.inr (Or.inr (Or.inl rfl)))) rfl ?_
  refine qy_v 24 rfl ?_
  refine qr_icmp_ge 22 12 rfl rfl rfl hz42_1 (by decide) (fun h => False.elim (by omega)) (fun h1 => ?_)
  refine qr_aload_n 13 rfl rfl rfl ?_
  refine qr_get 16 rfl rfl rfl (by decide) rfl ?_
  refine qr_aload_n 17 rfl rfl rfl ?_
  refine qr_get 20 rfl rfl rfl (by decide) rfl ?_
  refine qr_iload_n 21 rfl rfl rfl ?_
  refine qr_iastore 22 rfl (by decide) rfl (by omega) (by decide) rfl ?_
  refine qy_wA (qw_r α 43 (qzu (α 43) ((σ 42 1) : Int).toNat 11)) rfl (fun α2 e3 => ?_)
  have hI4 : qI σ α2 κ ρ := by rw [e3]; exact qI_r hI 43 _ rfl (show (-2147483648) ≤ 11 ∧ 11 ≤ 2147483647 by omega)
  have hF5 : qFr [(42, 1)] [43] σ α σ α2 := by rw [e3]; exact qFr_r hF0 43 _ (by decide)
  refine qr_aload_n 23 rfl rfl rfl ?_
  refine qr_dup 24 rfl rfl rfl ?_
  refine qr_get 27 rfl rfl rfl (by decide) rfl ?_
  refine qr_iconst 28 rfl rfl ?_
  refine qr_iadd 29 rfl rfl ?_
  refine qr_put 32 rfl (by decide) rfl (Nat.le_of_ble_eq_true rfl) (Nat.le_of_ble_eq_true rfl) (Or.inl rfl) (qr_fitI rfl _) rfl ?_
  refine qy_wS (qw_s σ 42 1 ((σ 42 1) + 1)) rfl (fun σ6 e7 => ?_)
  have hI8 : qI σ6 α2 κ ρ := by rw [e7]; exact qI_s hI4 42 1 rfl (show (-2147483648) ≤ ((σ 42 1) + 1) ∧ ((σ 42 1) + 1) ≤ 2147483647 by omega)
  have hF9 : qFr [(42, 1)] [43] σ α σ6 α2 := by rw [e7]; exact qFr_s hF5 42 1 _ (by decide)
  refine qr_getst 35 rfl rfl ?_
  refine qr_iload_n 36 rfl rfl rfl ?_
  refine qr_iaload 37 rfl rfl (by decide) (by decide) rfl ?_
  refine qy_v (-1) (by decide) ?_
  refine qr_istore _ 39 rfl (by decide) rfl rfl ?_
  refine qr_iload_n 40 rfl rfl rfl ?_
  refine qr_look (off := 154) 194 rfl (by omega) (by decide) (by decide) rfl ?_
  refine qr_iload 196 rfl rfl rfl ?_
  refine qr_iload 198 rfl rfl rfl ?_
  refine qr_ixor 199 rfl rfl ?_
  refine qy_canE (fun v10 hv10 hev10 => ?_)
  refine qr_retI rfl rfl (by decide) (by decide) ?_
  exact ⟨_, _, rfl, hI8, hF9, (by have hw : σ6 42 1 = ((σ 42 1) + 1) := (congrFun (congrFun e7 42) 1).trans rfl; omega), v10, rfl, hv10, (qac_v hev10 (by omega)), (((congrFun e3 43).trans (qw_r_eq.trans (congrArg (fun f => qzu f ((σ 42 1) : Int).toNat 11) rfl))))⟩

set_option maxHeartbeats 4000000 in
set_option maxRecDepth 20000 in
/-- OneRoof$Acts.runFrom -/
theorem sf_152_42ef1_2_2 {L : Nat} {xs : Nat → Int} {vb : Bool} {d : Nat} {σ α : Nat → Nat → Int} {κ : Nat → Option Nat} {ρ : Nat} {x4 : Int} {x5 : Int} {x6 : Int} (hI : qI σ α κ ρ) (r4 : (-2147483648) ≤ x4 ∧ x4 ≤ 2147483647) (r5 : (-2147483648) ≤ x5 ∧ x5 ≤ 2147483647) (r6 : 0 ≤ x6 ∧ x6 ≤ 39) (p0 : 0 ≤ σ 42 1 ∧ σ 42 1 ≤ 23) : qm_T (qe L xs vb) (d + 2) 152 [.ref 42, .int (qz 1), .int (qz 2), .int (qz 2), .int (qz x4), .int (qz x5), .int (qz x6)] (qw σ α κ ρ) (fun r w' => ∃ σ' α', w' = qw σ' α' κ ρ ∧ qI σ' α' κ ρ ∧ qFr [(42, 1)] [43] σ α σ' α' ∧ σ' 42 1 = σ 42 1 + 1 ∧ ∃ v : Int, r = some (.int (qz v)) ∧ ((-2147483648) ≤ v ∧ v ≤ 2147483647) ∧ v = qac_x x4 x5 ∧ α' 43 = qac_t [11] (α 43) (σ 42 1)) := by
  refine qr_start (d := d + 1) qv_e152 (Nat.le_of_ble_eq_true rfl) ?_
  show qr_W (qe L xs vb) (d + 1) qx_e152 _ (0, [(0, .ref 42), (1, .int (qz 1)), (2, .int (qz 2)), (3, .int (qz 2)), (4, .int (qz x4)), (5, .int (qz x5)), (6, .int (qz x6))], [], _, 0, 0)
  have hF0 := qFr_rf [(42, 1)] [43] σ α
  have hz42_1 : (-2147483648) ≤ σ 42 1 ∧ σ 42 1 ≤ 2147483647 := hI.1 42 1
  refine qr_iload_n 1 rfl rfl rfl ?_
  refine qr_istore _ 3 rfl (by decide) rfl rfl ?_
  refine qr_iconst 4 rfl rfl ?_
  refine qr_istore _ 6 rfl (by decide) rfl rfl ?_
  refine qr_iload 8 rfl rfl rfl ?_
  refine qr_getst 11 rfl rfl ?_
  refine qr_alen 12 rfl rfl (by first | exact Or.inl (by decide) | exact Or.inr (Or.inl rfl) | exact Or.inr (Or.inr (Or.inl rfl)) | exact Or.inr (Or.inr (Or.inr (Or.inl rfl)))) rfl ?_
  refine qy_v 7 rfl ?_
  refine qr_icmp_ge 89 15 rfl rfl rfl (by decide) (by decide) (fun h => False.elim (by omega)) (fun h1 => ?_)
  refine qr_iload 17 rfl rfl rfl ?_
  refine qr_if_lt 89 20 rfl rfl rfl (by decide) (fun h => False.elim (by omega)) (fun h2 => ?_)
  refine qr_iload 22 rfl rfl rfl ?_
  refine qr_getst 25 rfl rfl ?_
  refine qr_alen 26 rfl rfl (by first | exact Or.inl (by decide) | exact Or.inr (Or.inl rfl) | exact Or.inr (Or.inr (Or.inl rfl)) | exact Or.inr (Or.inr (Or.inr (Or.inl rfl)))) rfl ?_
  refine qy_v 7 rfl ?_
  refine qr_icmp_ge 89 29 rfl rfl rfl (by decide) (by decide) (fun h => False.elim (by omega)) (fun h3 => ?_)
  refine qr_getst 32 rfl rfl ?_
  refine qr_iload 34 rfl rfl rfl ?_
  refine qr_iconst 35 rfl rfl ?_
  refine qr_imul 36 rfl rfl ?_
  refine qy_v 4 rfl ?_
  refine qr_iload_n 37 rfl rfl rfl ?_
  refine qr_iadd 38 rfl rfl ?_
  refine qy_v 6 rfl ?_
  refine qr_iaload 39 rfl rfl (by decide) (by decide) rfl ?_
  refine qy_v 0 (by decide) ?_
  refine qr_istore _ 41 rfl (by decide) rfl rfl ?_
  refine qr_iload 43 rfl rfl rfl ?_
  refine qr_if_eq 75 46 rfl rfl rfl (by decide) (fun h4 => ?_) (fun h => False.elim (by omega))
  refine qr_getst 78 rfl rfl ?_
  refine qr_iload 80 rfl rfl rfl ?_
  refine qr_iaload 81 rfl rfl (by decide) (by decide) rfl ?_
  refine qy_v 0 (by decide) ?_
  refine qr_istore _ 83 rfl (by decide) rfl rfl ?_
  refine qr_iinc _ 86 rfl rfl (by decide) rfl rfl ?_
  refine qr_goto 6 rfl rfl ?_
  refine qr_iload 8 rfl rfl rfl ?_
  refine qr_getst 11 rfl rfl ?_
  refine qr_alen 12 rfl rfl (by first | exact Or.inl (by decide) | exact Or.inr (Or.inl rfl) | exact Or.inr (Or.inr (Or.inl rfl)) | exact Or.inr (Or.inr (Or.inr (Or.inl rfl)))) rfl ?_
  refine qy_v 7 rfl ?_
  refine qr_icmp_ge 89 15 rfl rfl rfl (by omega) (by decide) (fun h => False.elim (by omega)) (fun h5 => ?_)
  refine qr_iload 17 rfl rfl rfl ?_
  refine qr_if_lt 89 20 rfl rfl rfl (by decide) (fun h => False.elim (by omega)) (fun h6 => ?_)
  refine qr_iload 22 rfl rfl rfl ?_
  refine qr_getst 25 rfl rfl ?_
  refine qr_alen 26 rfl rfl (by first | exact Or.inl (by decide) | exact Or.inr (Or.inl rfl) | exact Or.inr (Or.inr (Or.inl rfl)) | exact Or.inr (Or.inr (Or.inr (Or.inl rfl)))) rfl ?_
  refine qy_v 7 rfl ?_
  refine qr_icmp_ge 89 29 rfl rfl rfl (by decide) (by decide) (fun h => False.elim (by omega)) (fun h7 => ?_)
  refine qr_getst 32 rfl rfl ?_
  refine qr_iload 34 rfl rfl rfl ?_
  refine qr_iconst 35 rfl rfl ?_
  refine qr_imul 36 rfl rfl ?_
  refine qy_v 0 rfl ?_
  refine qr_iload_n 37 rfl rfl rfl ?_
  refine qr_iadd 38 rfl rfl ?_
  refine qy_v 2 rfl ?_
  refine qr_iaload 39 rfl rfl (by decide) (by decide) rfl ?_
  refine qy_v 11 (by decide) ?_
  refine qr_istore _ 41 rfl (by decide) rfl rfl ?_
  refine qr_iload 43 rfl rfl rfl ?_
  refine qr_if_eq 75 46 rfl rfl rfl (by decide) (fun h => False.elim (by omega)) (fun h8 => ?_)
  as_aux_lemma =>
    refine qr_iload 48 rfl rfl rfl ?_
    refine qr_bipush 50 rfl (by decide) rfl ?_
    refine qr_icmp_le 57 53 rfl rfl rfl (qrg r6 (by decide) (by decide)) (by decide) (fun h9 => ?_) (fun h => False.elim (by omega))
    refine qr_aload_n 58 rfl rfl rfl ?_
    refine qr_iload 60 rfl rfl rfl ?_
    refine qr_iload 62 rfl rfl rfl ?_
    refine qr_iload_n 63 rfl rfl rfl ?_
    refine qr_iload 65 rfl rfl rfl ?_
    refine qr_iload 67 rfl rfl rfl ?_
    refine qr_iload 69 rfl rfl rfl ?_
    refine qr_iconst 70 rfl rfl ?_
    refine qr_iadd 71 rfl rfl ?_
    have hs10 : (-2147483648) ≤ σ 42 1 ∧ σ 42 1 ≤ 2147483647 := hI.1 42 1
    refine qr_callN 74 rfl rfl rfl (sf_153_42eb11_0_2 (d := d + 0) hI r4 r5 (by omega) (by omega)) ?_
    rintro _ _ ⟨σ15, α16, rfl, hI17, hG18, hw14, v11, rfl, hv11, hx12, hx13⟩
    have hF19 : qFr [(42, 1)] [43] σ α σ15 α16 := qFr_t hF0 hG18 (by decide) (by decide)
    have hs20 : (-2147483648) ≤ σ15 42 1 ∧ σ15 42 1 ≤ 2147483647 := hI17.1 42 1
    show qr_W (qe L xs vb) (d + 1) qx_e152 _ (74, _, [.int (qz v11)], qw σ15 α16 κ ρ, 0, 0)
    refine qr_retI rfl rfl (by decide) (by decide) ?_
    exact ⟨_, _, rfl, hI17, hF19, (by have hw : σ15 42 1 = (σ15 42 1) := rfl; omega), v11, rfl, hv11, hx12, hx13⟩

set_option maxHeartbeats 4000000 in
set_option maxRecDepth 20000 in
/-- OneRoof$Acts.begin -/
theorem sf_153_42eb30_2_2 {L : Nat} {xs : Nat → Int} {vb : Bool} {d : Nat} {σ α : Nat → Nat → Int} {κ : Nat → Option Nat} {ρ : Nat} {x4 : Int} {x5 : Int} {x6 : Int} (hI : qI σ α κ ρ) (r4 : (-2147483648) ≤ x4 ∧ x4 ≤ 2147483647) (r5 : (-2147483648) ≤ x5 ∧ x5 ≤ 2147483647) (r6 : 0 ≤ x6 ∧ x6 ≤ 39) (p0 : 0 ≤ σ 42 1 ∧ σ 42 1 ≤ 22) : qm_T (qe L xs vb) (d + 3) 153 [.ref 42, .int (qz 30), .int (qz 2), .int (qz 2), .int (qz x4), .int (qz x5), .int (qz x6)] (qw σ α κ ρ) (fun r w' => ∃ σ' α', w' = qw σ' α' κ ρ ∧ qI σ' α' κ ρ ∧ qFr [(42, 1)] [43] σ α σ' α' ∧ σ' 42 1 = σ 42 1 + 2 ∧ ∃ v : Int, r = some (.int (qz v)) ∧ ((-2147483648) ≤ v ∧ v ≤ 2147483647) ∧ v = qac_m (qac_x x4 x5) 3 ∧ α' 43 = qac_t [30, 11] (α 43) (σ 42 1)) := by
  refine qr_start (d := d + 2) qv_e153 (Nat.le_of_ble_eq_true rfl) ?_
  show qr_W (qe L xs vb) (d + 2) qx_e153 _ (0, [(0, .ref 42), (1, .int (qz 30)), (2, .int (qz 2)), (3, .int (qz 2)), (4, .int (qz x4)), (5, .int (qz x5)), (6, .int (qz x6))], [], _, 0, 0)
  have hF0 := qFr_rf [(42, 1)] [43] σ α
  have hz42_1 : (-2147483648) ≤ σ 42 1 ∧ σ 42 1 ≤ 2147483647 := hI.1 42 1
  refine qr_aload_n 1 rfl rfl rfl ?_
  refine qr_get 4 rfl rfl rfl (by decide) rfl ?_
  refine qr_aload_n 5 rfl rfl rfl ?_
  refine qr_get 8 rfl rfl rfl (by decide) rfl ?_
  refine qr_alen 9 rfl rfl (by first | exact Or.inl (by decide) | exact Or.inr (Or.inl rfl) | exact Or.inr (Or.inr (Or.inl rfl)) | exact Or.inr (Or.inr (Or.inr (Or.inl rfl)))) rfl ?_
  refine qy_v 24 rfl ?_
  refine qr_icmp_ge 22 12 rfl rfl rfl hz42_1 (by decide) (fun h => False.elim (by omega)) (fun h1 => ?_)
  refine qr_aload_n 13 rfl rfl rfl ?_
  refine qr_get 16 rfl rfl rfl (by decide) rfl ?_
  refine qr_aload_n 17 rfl rfl rfl ?_
  refine qr_get 20 rfl rfl rfl (by decide) rfl ?_
  refine qr_iload_n 21 rfl rfl rfl ?_
  refine qr_iastore 22 rfl (by decide) rfl (by omega) (by decide) rfl ?_
  refine qy_wA (qw_r α 43 (qzu (α 43) ((σ 42 1) : Int).toNat 30)) rfl (fun α2 e3 => ?_)
  have hI4 : qI σ α2 κ ρ := by rw [e3]; exact qI_r hI 43 _ rfl (show (-2147483648) ≤ 30 ∧ 30 ≤ 2147483647 by omega)
  have hF5 : qFr [(42, 1)] [43] σ α σ α2 := by rw [e3]; exact qFr_r hF0 43 _ (by decide)
  refine qr_aload_n 23 rfl rfl rfl ?_
  refine qr_dup 24 rfl rfl rfl ?_
  refine qr_get 27 rfl rfl rfl (by decide) rfl ?_
  refine qr_iconst 28 rfl rfl ?_
  refine qr_iadd 29 rfl rfl ?_
  refine qr_put 32 rfl (by decide) rfl (Nat.le_of_ble_eq_true rfl) (Nat.le_of_ble_eq_true rfl) (Or.inl rfl) (qr_fitI rfl _) rfl ?_
  refine qy_wS (qw_s σ 42 1 ((σ 42 1) + 1)) rfl (fun σ6 e7 => ?_)
  have hI8 : qI σ6 α2 κ ρ := by rw [e7]; exact qI_s hI4 42 1 rfl (show (-2147483648) ≤ ((σ 42 1) + 1) ∧ ((σ 42 1) + 1) ≤ 2147483647 by omega)
  have hF9 : qFr [(42, 1)] [43] σ α σ6 α2 := by rw [e7]; exact qFr_s hF5 42 1 _ (by decide)
  refine qr_getst 35 rfl rfl ?_
  refine qr_iload_n 36 rfl rfl rfl ?_
  refine qr_iaload 37 rfl rfl (by decide) (by decide) rfl ?_
  refine qy_v 1 (by decide) ?_
  refine qr_istore _ 39 rfl (by decide) rfl rfl ?_
  refine qr_iload_n 40 rfl rfl rfl ?_
  refine qr_look (off := 177) 217 rfl (by omega) (by decide) (by decide) rfl ?_
  refine qr_aload_n 218 rfl rfl rfl ?_
  refine qr_iload 220 rfl rfl rfl ?_
  refine qr_iload_n 221 rfl rfl rfl ?_
  refine qr_iconst 222 rfl rfl ?_
  refine qr_iload 224 rfl rfl rfl ?_
  refine qr_iload 226 rfl rfl rfl ?_
  refine qr_iload 228 rfl rfl rfl ?_
  have hr10 : σ6 42 1 = ((σ 42 1) + 1) := (congrFun (congrFun e7 42) 1).trans rfl
  have hs11 : (-2147483648) ≤ σ6 42 1 ∧ σ6 42 1 ≤ 2147483647 := hI8.1 42 1
  have hs12 : σ6 42 1 = ((σ 42 1) + 1) := (congrFun (congrFun e7 42) 1).trans rfl
  refine qr_callN 231 rfl rfl rfl (sf_152_42ef1_2_2 (d := d + 0) hI8 r4 r5 r6 (by omega)) ?_
  rintro _ _ ⟨σ17, α18, rfl, hI19, hG20, hw16, v13, rfl, hv13, hx14, hx15⟩
  have hF21 : qFr [(42, 1)] [43] σ α σ17 α18 := qFr_t hF9 hG20 (by decide) (by decide)
  have hs22 : (-2147483648) ≤ σ17 42 1 ∧ σ17 42 1 ≤ 2147483647 := hI19.1 42 1
  show qr_W (qe L xs vb) (d + 2) qx_e153 _ (231, _, [.int (qz v13)], qw σ17 α18 κ ρ, 0, 0)
  refine qr_iconst 232 rfl rfl ?_
  refine qr_imul 233 rfl rfl ?_
  refine qy_canE (fun v23 hv23 hev23 => ?_)
  refine qr_retI rfl rfl (by decide) (by decide) ?_
  exact ⟨_, _, rfl, hI19, hF21, (by have hw : σ17 42 1 = (σ17 42 1) := rfl; omega), v23, rfl, hv23, ((qac_v hev23 (by omega)).trans (by rw [hx14]; rfl)), (by rw [hx15, show α2 43 = qzu (α 43) (σ 42 1 : Int).toNat 30 from ((congrFun e3 43).trans (qw_r_eq.trans (congrArg (fun f => qzu f ((σ 42 1) : Int).toNat 30) rfl))), show σ6 42 1 = σ 42 1 + 1 by omega]; rfl)⟩

set_option maxHeartbeats 4000000 in
set_option maxRecDepth 20000 in
/-- OneRoof$Acts.runFrom -/
theorem sf_152_42ef2_2_2 {L : Nat} {xs : Nat → Int} {vb : Bool} {d : Nat} {σ α : Nat → Nat → Int} {κ : Nat → Option Nat} {ρ : Nat} {x4 : Int} {x5 : Int} {x6 : Int} (hI : qI σ α κ ρ) (r4 : (-2147483648) ≤ x4 ∧ x4 ≤ 2147483647) (r5 : (-2147483648) ≤ x5 ∧ x5 ≤ 2147483647) (r6 : 0 ≤ x6 ∧ x6 ≤ 38) (p0 : 0 ≤ σ 42 1 ∧ σ 42 1 ≤ 22) : qm_T (qe L xs vb) (d + 4) 152 [.ref 42, .int (qz 2), .int (qz 2), .int (qz 2), .int (qz x4), .int (qz x5), .int (qz x6)] (qw σ α κ ρ) (fun r w' => ∃ σ' α', w' = qw σ' α' κ ρ ∧ qI σ' α' κ ρ ∧ qFr [(42, 1)] [43] σ α σ' α' ∧ σ' 42 1 = σ 42 1 + 2 ∧ ∃ v : Int, r = some (.int (qz v)) ∧ ((-2147483648) ≤ v ∧ v ≤ 2147483647) ∧ v = qac_m (qac_x x4 x5) 3 ∧ α' 43 = qac_t [30, 11] (α 43) (σ 42 1)) := by
  refine qr_start (d := d + 3) qv_e152 (Nat.le_of_ble_eq_true rfl) ?_
  show qr_W (qe L xs vb) (d + 3) qx_e152 _ (0, [(0, .ref 42), (1, .int (qz 2)), (2, .int (qz 2)), (3, .int (qz 2)), (4, .int (qz x4)), (5, .int (qz x5)), (6, .int (qz x6))], [], _, 0, 0)
  have hF0 := qFr_rf [(42, 1)] [43] σ α
  have hz42_1 : (-2147483648) ≤ σ 42 1 ∧ σ 42 1 ≤ 2147483647 := hI.1 42 1
  refine qr_iload_n 1 rfl rfl rfl ?_
  refine qr_istore _ 3 rfl (by decide) rfl rfl ?_
  refine qr_iconst 4 rfl rfl ?_
  refine qr_istore _ 6 rfl (by decide) rfl rfl ?_
  refine qr_iload 8 rfl rfl rfl ?_
  refine qr_getst 11 rfl rfl ?_
  refine qr_alen 12 rfl rfl (by first | exact Or.inl (by decide) | exact Or.inr (Or.inl rfl) | exact Or.inr (Or.inr (Or.inl rfl)) | exact Or.inr (Or.inr (Or.inr (Or.inl rfl)))) rfl ?_
  refine qy_v 7 rfl ?_
  refine qr_icmp_ge 89 15 rfl rfl rfl (by decide) (by decide) (fun h => False.elim (by omega)) (fun h1 => ?_)
  refine qr_iload 17 rfl rfl rfl ?_
  refine qr_if_lt 89 20 rfl rfl rfl (by decide) (fun h => False.elim (by omega)) (fun h2 => ?_)
  refine qr_iload 22 rfl rfl rfl ?_
  refine qr_getst 25 rfl rfl ?_
  refine qr_alen 26 rfl rfl (by first | exact Or.inl (by decide) | exact Or.inr (Or.inl rfl) | exact Or.inr (Or.inr (Or.inl rfl)) | exact Or.inr (Or.inr (Or.inr (Or.inl rfl)))) rfl ?_
  refine qy_v 7 rfl ?_
  refine qr_icmp_ge 89 29 rfl rfl rfl (by decide) (by decide) (fun h => False.elim (by omega)) (fun h3 => ?_)
  refine qr_getst 32 rfl rfl ?_
  refine qr_iload 34 rfl rfl rfl ?_
  refine qr_iconst 35 rfl rfl ?_
  refine qr_imul 36 rfl rfl ?_
  refine qy_v 8 rfl ?_
  refine qr_iload_n 37 rfl rfl rfl ?_
  refine qr_iadd 38 rfl rfl ?_
  refine qy_v 10 rfl ?_
  refine qr_iaload 39 rfl rfl (by decide) (by decide) rfl ?_
  refine qy_v 30 (by decide) ?_
  refine qr_istore _ 41 rfl (by decide) rfl rfl ?_
  refine qr_iload 43 rfl rfl rfl ?_
  refine qr_if_eq 75 46 rfl rfl rfl (by decide) (fun h => False.elim (by omega)) (fun h4 => ?_)
  refine qr_iload 48 rfl rfl rfl ?_
  refine qr_bipush 50 rfl (by decide) rfl ?_
  refine qr_icmp_le 57 53 rfl rfl rfl (qrg r6 (by decide) (by decide)) (by decide) (fun h5 => ?_) (fun h => False.elim (by omega))
  refine qr_aload_n 58 rfl rfl rfl ?_
  refine qr_iload 60 rfl rfl rfl ?_
  refine qr_iload 62 rfl rfl rfl ?_
  refine qr_iload_n 63 rfl rfl rfl ?_
  refine qr_iload 65 rfl rfl rfl ?_
  refine qr_iload 67 rfl rfl rfl ?_
  refine qr_iload 69 rfl rfl rfl ?_
  refine qr_iconst 70 rfl rfl ?_
  refine qr_iadd 71 rfl rfl ?_
  have hs6 : (-2147483648) ≤ σ 42 1 ∧ σ 42 1 ≤ 2147483647 := hI.1 42 1
  refine qr_callN 74 rfl rfl rfl (sf_153_42eb30_2_2 (d := d + 0) hI r4 r5 (by omega) (by omega)) ?_
  rintro _ _ ⟨σ11, α12, rfl, hI13, hG14, hw10, v7, rfl, hv7, hx8, hx9⟩
  have hF15 : qFr [(42, 1)] [43] σ α σ11 α12 := qFr_t hF0 hG14 (by decide) (by decide)
  have hs16 : (-2147483648) ≤ σ11 42 1 ∧ σ11 42 1 ≤ 2147483647 := hI13.1 42 1
  show qr_W (qe L xs vb) (d + 3) qx_e152 _ (74, _, [.int (qz v7)], qw σ11 α12 κ ρ, 0, 0)
  refine qr_retI rfl rfl (by decide) (by decide) ?_
  exact ⟨_, _, rfl, hI13, hF15, (by have hw : σ11 42 1 = (σ11 42 1) := rfl; omega), v7, rfl, hv7, hx8, hx9⟩

set_option maxHeartbeats 4000000 in
set_option maxRecDepth 20000 in
/-- OneRoof$Acts.run -/
theorem sf_151_42er2_2 {L : Nat} {xs : Nat → Int} {vb : Bool} {d : Nat} {σ α : Nat → Nat → Int} {κ : Nat → Option Nat} {ρ : Nat} {x3 : Int} {x4 : Int} {x5 : Int} (hI : qI σ α κ ρ) (r3 : (-2147483648) ≤ x3 ∧ x3 ≤ 2147483647) (r4 : (-2147483648) ≤ x4 ∧ x4 ≤ 2147483647) (r5 : 0 ≤ x5 ∧ x5 ≤ 38) (p0 : 0 ≤ σ 42 1 ∧ σ 42 1 ≤ 22) : qm_T (qe L xs vb) (d + 5) 151 [.ref 42, .int (qz 2), .int (qz 2), .int (qz x3), .int (qz x4), .int (qz x5)] (qw σ α κ ρ) (fun r w' => ∃ σ' α', w' = qw σ' α' κ ρ ∧ qI σ' α' κ ρ ∧ qFr [(42, 1)] [43] σ α σ' α' ∧ σ' 42 1 = σ 42 1 + 2 ∧ ∃ v : Int, r = some (.int (qz v)) ∧ ((-2147483648) ≤ v ∧ v ≤ 2147483647) ∧ v = qac_m (qac_x x3 x4) 3 ∧ α' 43 = qac_t [30, 11] (α 43) (σ 42 1)) := by
  refine qr_start (d := d + 4) qv_e151 (Nat.le_of_ble_eq_true rfl) ?_
  show qr_W (qe L xs vb) (d + 4) qx_e151 _ (0, [(0, .ref 42), (1, .int (qz 2)), (2, .int (qz 2)), (3, .int (qz x3)), (4, .int (qz x4)), (5, .int (qz x5))], [], _, 0, 0)
  have hF0 := qFr_rf [(42, 1)] [43] σ α
  have hz42_1 : (-2147483648) ≤ σ 42 1 ∧ σ 42 1 ≤ 2147483647 := hI.1 42 1
  refine qr_aload_n 1 rfl rfl rfl ?_
  refine qr_iload_n 2 rfl rfl rfl ?_
  refine qr_iload_n 3 rfl rfl rfl ?_
  refine qr_iload_n 4 rfl rfl rfl ?_
  refine qr_iload_n 5 rfl rfl rfl ?_
  refine qr_iload 7 rfl rfl rfl ?_
  refine qr_iload 9 rfl rfl rfl ?_
  have hs1 : (-2147483648) ≤ σ 42 1 ∧ σ 42 1 ≤ 2147483647 := hI.1 42 1
  refine qr_callN 12 rfl rfl rfl (sf_152_42ef2_2_2 (d := d + 0) hI r3 r4 r5 (by omega)) ?_
  rintro _ _ ⟨σ6, α7, rfl, hI8, hG9, hw5, v2, rfl, hv2, hx3, hx4⟩
  have hF10 : qFr [(42, 1)] [43] σ α σ6 α7 := qFr_t hF0 hG9 (by decide) (by decide)
  have hs11 : (-2147483648) ≤ σ6 42 1 ∧ σ6 42 1 ≤ 2147483647 := hI8.1 42 1
  show qr_W (qe L xs vb) (d + 4) qx_e151 _ (12, _, [.int (qz v2)], qw σ6 α7 κ ρ, 0, 0)
  refine qr_retI rfl rfl (by decide) (by decide) ?_
  exact ⟨_, _, rfl, hI8, hF10, (by have hw : σ6 42 1 = (σ6 42 1) := rfl; omega), v2, rfl, hv2, hx3, hx4⟩

set_option maxHeartbeats 4000000 in
set_option maxRecDepth 20000 in
/-- OneRoof$Acts.start -/
theorem sf_150_42es2_2 {L : Nat} {xs : Nat → Int} {vb : Bool} {d : Nat} {σ α : Nat → Nat → Int} {κ : Nat → Option Nat} {ρ : Nat} {x3 : Int} {x4 : Int} (hI : qI σ α κ ρ) (r3 : (-2147483648) ≤ x3 ∧ x3 ≤ 2147483647) (r4 : (-2147483648) ≤ x4 ∧ x4 ≤ 2147483647) (p0 : 0 ≤ σ 42 1 ∧ σ 42 1 ≤ 22) : qm_T (qe L xs vb) (d + 6) 150 [.ref 42, .int (qz 2), .int (qz 2), .int (qz x3), .int (qz x4)] (qw σ α κ ρ) (fun r w' => ∃ σ' α', w' = qw σ' α' κ ρ ∧ qI σ' α' κ ρ ∧ qFr [(42, 1)] [43] σ α σ' α' ∧ σ' 42 1 = σ 42 1 + 2 ∧ ∃ v : Int, r = some (.int (qz v)) ∧ ((-2147483648) ≤ v ∧ v ≤ 2147483647) ∧ v = qac_m (qac_x x3 x4) 3 ∧ α' 43 = qac_t [30, 11] (α 43) (σ 42 1)) := by
  refine qr_start (d := d + 5) qv_e150 (Nat.le_of_ble_eq_true rfl) ?_
  show qr_W (qe L xs vb) (d + 5) qx_e150 _ (0, [(0, .ref 42), (1, .int (qz 2)), (2, .int (qz 2)), (3, .int (qz x3)), (4, .int (qz x4))], [], _, 0, 0)
  have hF0 := qFr_rf [(42, 1)] [43] σ α
  have hz42_1 : (-2147483648) ≤ σ 42 1 ∧ σ 42 1 ≤ 2147483647 := hI.1 42 1
  refine qr_aload_n 1 rfl rfl rfl ?_
  refine qr_iload_n 2 rfl rfl rfl ?_
  refine qr_iload_n 3 rfl rfl rfl ?_
  refine qr_iload_n 4 rfl rfl rfl ?_
  refine qr_iload 6 rfl rfl rfl ?_
  refine qr_iconst 7 rfl rfl ?_
  have hs1 : (-2147483648) ≤ σ 42 1 ∧ σ 42 1 ≤ 2147483647 := hI.1 42 1
  refine qr_callN 10 rfl rfl rfl (sf_151_42er2_2 (d := d + 0) hI r3 r4 (by decide) (by omega)) ?_
  rintro _ _ ⟨σ6, α7, rfl, hI8, hG9, hw5, v2, rfl, hv2, hx3, hx4⟩
  have hF10 : qFr [(42, 1)] [43] σ α σ6 α7 := qFr_t hF0 hG9 (by decide) (by decide)
  have hs11 : (-2147483648) ≤ σ6 42 1 ∧ σ6 42 1 ≤ 2147483647 := hI8.1 42 1
  show qr_W (qe L xs vb) (d + 5) qx_e150 _ (10, _, [.int (qz v2)], qw σ6 α7 κ ρ, 0, 0)
  refine qr_retI rfl rfl (by decide) (by decide) ?_
  exact ⟨_, _, rfl, hI8, hF10, (by have hw : σ6 42 1 = (σ6 42 1) := rfl; omega), v2, rfl, hv2, hx3, hx4⟩

set_option maxHeartbeats 4000000 in
set_option maxRecDepth 20000 in
/-- OneRoof$Acts.begin -/
theorem sf_153_42eb2_0_2 {L : Nat} {xs : Nat → Int} {vb : Bool} {d : Nat} {σ α : Nat → Nat → Int} {κ : Nat → Option Nat} {ρ : Nat} {x4 : Int} {x5 : Int} {x6 : Int} (hI : qI σ α κ ρ) (r4 : (-2147483648) ≤ x4 ∧ x4 ≤ 2147483647) (r5 : (-2147483648) ≤ x5 ∧ x5 ≤ 2147483647) (r6 : 0 ≤ x6 ∧ x6 ≤ 36) (p0 : 0 ≤ σ 42 1 ∧ σ 42 1 ≤ 17) : qm_T (qe L xs vb) (d + 11) 153 [.ref 42, .int (qz 2), .int (qz 0), .int (qz 2), .int (qz x4), .int (qz x5), .int (qz x6)] (qw σ α κ ρ) (fun r w' => ∃ σ' α', w' = qw σ' α' κ ρ ∧ qI σ' α' κ ρ ∧ qFr [(42, 1)] [43] σ α σ' α' ∧ σ' 42 1 = σ 42 1 + 7 ∧ ∃ v : Int, r = some (.int (qz v)) ∧ ((-2147483648) ≤ v ∧ v ≤ 2147483647) ∧ v = qac_s (qac_m (qac_a (qac_a (qac_a x4 1) x5) 3) 2) (qac_m (qac_x 1 x5) 3) ∧ α' 43 = qac_t [2, 10, 31, 20, 1, 30, 11] (α 43) (σ 42 1)) := by
  refine qr_start (d := d + 10) qv_e153 (Nat.le_of_ble_eq_true rfl) ?_
  show qr_W (qe L xs vb) (d + 10) qx_e153 _ (0, [(0, .ref 42), (1, .int (qz 2)), (2, .int (qz 0)), (3, .int (qz 2)), (4, .int (qz x4)), (5, .int (qz x5)), (6, .int (qz x6))], [], _, 0, 0)
  have hF0 := qFr_rf [(42, 1)] [43] σ α
  have hz42_1 : (-2147483648) ≤ σ 42 1 ∧ σ 42 1 ≤ 2147483647 := hI.1 42 1
  refine qr_aload_n 1 rfl rfl rfl ?_
  refine qr_get 4 rfl rfl rfl (by decide) rfl ?_
  refine qr_aload_n 5 rfl rfl rfl ?_
  refine qr_get 8 rfl rfl rfl (by decide) rfl ?_
  refine qr_alen 9 rfl rfl (by first | exact Or.inl (by decide) | exact Or.inr (Or.inl rfl) | exact Or.inr (Or.inr (Or.inl rfl)) | exact Or.inr (Or.inr (Or.inr (Or.inl rfl)))) rfl ?_
  refine qy_v 24 rfl ?_
  refine qr_icmp_ge 22 12 rfl rfl rfl hz42_1 (by decide) (fun h => False.elim (by omega)) (fun h1 => ?_)
  refine qr_aload_n 13 rfl rfl rfl ?_
  refine qr_get 16 rfl rfl rfl (by decide) rfl ?_
  refine qr_aload_n 17 rfl rfl rfl ?_
  refine qr_get 20 rfl rfl rfl (by decide) rfl ?_
  refine qr_iload_n 21 rfl rfl rfl ?_
  refine qr_iastore 22 rfl (by decide) rfl (by omega) (by decide) rfl ?_
  refine qy_wA (qw_r α 43 (qzu (α 43) ((σ 42 1) : Int).toNat 2)) rfl (fun α2 e3 => ?_)
  have hI4 : qI σ α2 κ ρ := by rw [e3]; exact qI_r hI 43 _ rfl (show (-2147483648) ≤ 2 ∧ 2 ≤ 2147483647 by omega)
  have hF5 : qFr [(42, 1)] [43] σ α σ α2 := by rw [e3]; exact qFr_r hF0 43 _ (by decide)
  refine qr_aload_n 23 rfl rfl rfl ?_
  refine qr_dup 24 rfl rfl rfl ?_
  refine qr_get 27 rfl rfl rfl (by decide) rfl ?_
  refine qr_iconst 28 rfl rfl ?_
  refine qr_iadd 29 rfl rfl ?_
  refine qr_put 32 rfl (by decide) rfl (Nat.le_of_ble_eq_true rfl) (Nat.le_of_ble_eq_true rfl) (Or.inl rfl) (qr_fitI rfl _) rfl ?_
  refine qy_wS (qw_s σ 42 1 ((σ 42 1) + 1)) rfl (fun σ6 e7 => ?_)
  have hI8 : qI σ6 α2 κ ρ := by rw [e7]; exact qI_s hI4 42 1 rfl (show (-2147483648) ≤ ((σ 42 1) + 1) ∧ ((σ 42 1) + 1) ≤ 2147483647 by omega)
  have hF9 : qFr [(42, 1)] [43] σ α σ6 α2 := by rw [e7]; exact qFr_s hF5 42 1 _ (by decide)
  refine qr_getst 35 rfl rfl ?_
  refine qr_iload_n 36 rfl rfl rfl ?_
  refine qr_iaload 37 rfl rfl (by decide) (by decide) rfl ?_
  refine qy_v (-1) (by decide) ?_
  refine qr_istore _ 39 rfl (by decide) rfl rfl ?_
  refine qr_iload_n 40 rfl rfl rfl ?_
  refine qr_look (off := 114) 154 rfl (by omega) (by decide) (by decide) rfl ?_
  refine qr_aload_n 155 rfl rfl rfl ?_
  refine qr_iload_n 156 rfl rfl rfl ?_
  refine qr_iconst 157 rfl rfl ?_
  refine qr_iload 159 rfl rfl rfl ?_
  refine qr_iload 161 rfl rfl rfl ?_
  refine qr_iload 163 rfl rfl rfl ?_
  have hr10 : σ6 42 1 = ((σ 42 1) + 1) := (congrFun (congrFun e7 42) 1).trans rfl
  have hs11 : (-2147483648) ≤ σ6 42 1 ∧ σ6 42 1 ≤ 2147483647 := hI8.1 42 1
  have hs12 : σ6 42 1 = ((σ 42 1) + 1) := (congrFun (congrFun e7 42) 1).trans rfl
  refine qr_callN 166 rfl rfl rfl (sf_151_42er2_1 (d := d + 0) hI8 r4 r5 r6 (by omega)) ?_
  rintro _ _ ⟨σ17, α18, rfl, hI19, hG20, hw16, v13, rfl, hv13, hx14, hx15⟩
  have hF21 : qFr [(42, 1)] [43] σ α σ17 α18 := qFr_t hF9 hG20 (by decide) (by decide)
  have hs22 : (-2147483648) ≤ σ17 42 1 ∧ σ17 42 1 ≤ 2147483647 := hI19.1 42 1
  show qr_W (qe L xs vb) (d + 10) qx_e153 _ (166, _, [.int (qz v13)], qw σ17 α18 κ ρ, 0, 0)
  refine qr_aload_n 167 rfl rfl rfl ?_
  refine qr_iload_n 168 rfl rfl rfl ?_
  refine qr_iconst 169 rfl rfl ?_
  refine qr_iconst 170 rfl rfl ?_
  refine qr_iload 172 rfl rfl rfl ?_
  refine qr_iload 174 rfl rfl rfl ?_
  have hr23 : σ17 42 1 = (σ17 42 1) := rfl
  have hs24 : (-2147483648) ≤ σ17 42 1 ∧ σ17 42 1 ≤ 2147483647 := hI19.1 42 1
  refine qr_callN 177 rfl rfl rfl (sf_151_42er2_2 (d := d + 5) hI19 (by decide) r5 (qrg r6 (by decide) (by decide)) (by omega)) ?_
  rintro _ _ ⟨σ29, α30, rfl, hI31, hG32, hw28, v25, rfl, hv25, hx26, hx27⟩
  have hF33 : qFr [(42, 1)] [43] σ α σ29 α30 := qFr_t hF21 hG32 (by decide) (by decide)
  have hs34 : (-2147483648) ≤ σ29 42 1 ∧ σ29 42 1 ≤ 2147483647 := hI31.1 42 1
  show qr_W (qe L xs vb) (d + 10) qx_e153 _ (177, _, [.int (qz v25), .int (qz v13)], qw σ29 α30 κ ρ, 0, 0)
  refine qr_isub 178 rfl rfl ?_
  refine qy_canE (fun v35 hv35 hev35 => ?_)
  refine qr_retI rfl rfl (by decide) (by decide) ?_
  exact ⟨_, _, rfl, hI31, hF33, (by have hw : σ29 42 1 = (σ29 42 1) := rfl; omega), v35, rfl, hv35, ((qac_v hev35 (by omega)).trans (by rw [hx14, hx26]; rfl)), (by rw [hx27, hx15, show α2 43 = qzu (α 43) (σ 42 1 : Int).toNat 2 from ((congrFun e3 43).trans (qw_r_eq.trans (congrArg (fun f => qzu f ((σ 42 1) : Int).toNat 2) rfl))), show σ6 42 1 = σ 42 1 + 1 by omega, show σ17 42 1 = σ 42 1 + 1 + 4 by omega]; exact (qac_t_app [10, 31, 20, 1] [30, 11] (qzu (α 43) (σ 42 1 : Int).toNat 2) (σ 42 1 + 1)).symm)⟩

set_option maxHeartbeats 4000000 in
set_option maxRecDepth 20000 in
/-- OneRoof$Acts.runFrom -/
theorem sf_152_42ef2_2_3 {L : Nat} {xs : Nat → Int} {vb : Bool} {d : Nat} {σ α : Nat → Nat → Int} {κ : Nat → Option Nat} {ρ : Nat} {x4 : Int} {x5 : Int} {x6 : Int} (hI : qI σ α κ ρ) (r4 : (-2147483648) ≤ x4 ∧ x4 ≤ 2147483647) (r5 : (-2147483648) ≤ x5 ∧ x5 ≤ 2147483647) (r6 : 0 ≤ x6 ∧ x6 ≤ 35) (p0 : 0 ≤ σ 42 1 ∧ σ 42 1 ≤ 17) : qm_T (qe L xs vb) (d + 12) 152 [.ref 42, .int (qz 2), .int (qz 2), .int (qz 3), .int (qz x4), .int (qz x5), .int (qz x6)] (qw σ α κ ρ) (fun r w' => ∃ σ' α', w' = qw σ' α' κ ρ ∧ qI σ' α' κ ρ ∧ qFr [(42, 1)] [43] σ α σ' α' ∧ σ' 42 1 = σ 42 1 + 7 ∧ ∃ v : Int, r = some (.int (qz v)) ∧ ((-2147483648) ≤ v ∧ v ≤ 2147483647) ∧ v = qac_s (qac_m (qac_a (qac_a (qac_a x4 1) x5) 3) 2) (qac_m (qac_x 1 x5) 3) ∧ α' 43 = qac_t [2, 10, 31, 20, 1, 30, 11] (α 43) (σ 42 1)) := by
  refine qr_start (d := d + 11) qv_e152 (Nat.le_of_ble_eq_true rfl) ?_
  show qr_W (qe L xs vb) (d + 11) qx_e152 _ (0, [(0, .ref 42), (1, .int (qz 2)), (2, .int (qz 2)), (3, .int (qz 3)), (4, .int (qz x4)), (5, .int (qz x5)), (6, .int (qz x6))], [], _, 0, 0)
  have hF0 := qFr_rf [(42, 1)] [43] σ α
  have hz42_1 : (-2147483648) ≤ σ 42 1 ∧ σ 42 1 ≤ 2147483647 := hI.1 42 1
  refine qr_iload_n 1 rfl rfl rfl ?_
  refine qr_istore _ 3 rfl (by decide) rfl rfl ?_
  refine qr_iconst 4 rfl rfl ?_
  refine qr_istore _ 6 rfl (by decide) rfl rfl ?_
  refine qr_iload 8 rfl rfl rfl ?_
  refine qr_getst 11 rfl rfl ?_
  refine qr_alen 12 rfl rfl (by first | exact Or.inl (by decide) | exact Or.inr (Or.inl rfl) | exact Or.inr (Or.inr (Or.inl rfl)) | exact Or.inr (Or.inr (Or.inr (Or.inl rfl)))) rfl ?_
  refine qy_v 7 rfl ?_
  refine qr_icmp_ge 89 15 rfl rfl rfl (by decide) (by decide) (fun h => False.elim (by omega)) (fun h1 => ?_)
  refine qr_iload 17 rfl rfl rfl ?_
  refine qr_if_lt 89 20 rfl rfl rfl (by decide) (fun h => False.elim (by omega)) (fun h2 => ?_)
  refine qr_iload 22 rfl rfl rfl ?_
  refine qr_getst 25 rfl rfl ?_
  refine qr_alen 26 rfl rfl (by first | exact Or.inl (by decide) | exact Or.inr (Or.inl rfl) | exact Or.inr (Or.inr (Or.inl rfl)) | exact Or.inr (Or.inr (Or.inr (Or.inl rfl)))) rfl ?_
  refine qy_v 7 rfl ?_
  refine qr_icmp_ge 89 29 rfl rfl rfl (by decide) (by decide) (fun h => False.elim (by omega)) (fun h3 => ?_)
  refine qr_getst 32 rfl rfl ?_
  refine qr_iload 34 rfl rfl rfl ?_
  refine qr_iconst 35 rfl rfl ?_
  refine qr_imul 36 rfl rfl ?_
  refine qy_v 8 rfl ?_
  refine qr_iload_n 37 rfl rfl rfl ?_
  refine qr_iadd 38 rfl rfl ?_
  refine qy_v 11 rfl ?_
  refine qr_iaload 39 rfl rfl (by decide) (by decide) rfl ?_
  refine qy_v 0 (by decide) ?_
  refine qr_istore _ 41 rfl (by decide) rfl rfl ?_
  refine qr_iload 43 rfl rfl rfl ?_
  refine qr_if_eq 75 46 rfl rfl rfl (by decide) (fun h4 => ?_) (fun h => False.elim (by omega))
  refine qr_getst 78 rfl rfl ?_
  refine qr_iload 80 rfl rfl rfl ?_
  refine qr_iaload 81 rfl rfl (by decide) (by decide) rfl ?_
  refine qy_v 1 (by decide) ?_
  refine qr_istore _ 83 rfl (by decide) rfl rfl ?_
  refine qr_iinc _ 86 rfl rfl (by decide) rfl rfl ?_
  refine qr_goto 6 rfl rfl ?_
  refine qr_iload 8 rfl rfl rfl ?_
  refine qr_getst 11 rfl rfl ?_
  refine qr_alen 12 rfl rfl (by first | exact Or.inl (by decide) | exact Or.inr (Or.inl rfl) | exact Or.inr (Or.inr (Or.inl rfl)) | exact Or.inr (Or.inr (Or.inr (Or.inl rfl)))) rfl ?_
  refine qy_v 7 rfl ?_
  refine qr_icmp_ge 89 15 rfl rfl rfl (by omega) (by decide) (fun h => False.elim (by omega)) (fun h5 => ?_)
  refine qr_iload 17 rfl rfl rfl ?_
  refine qr_if_lt 89 20 rfl rfl rfl (by decide) (fun h => False.elim (by omega)) (fun h6 => ?_)
  refine qr_iload 22 rfl rfl rfl ?_
  refine qr_getst 25 rfl rfl ?_
  refine qr_alen 26 rfl rfl (by first | exact Or.inl (by decide) | exact Or.inr (Or.inl rfl) | exact Or.inr (Or.inr (Or.inl rfl)) | exact Or.inr (Or.inr (Or.inr (Or.inl rfl)))) rfl ?_
  refine qy_v 7 rfl ?_
  refine qr_icmp_ge 89 29 rfl rfl rfl (by decide) (by decide) (fun h => False.elim (by omega)) (fun h7 => ?_)
  refine qr_getst 32 rfl rfl ?_
  refine qr_iload 34 rfl rfl rfl ?_
  refine qr_iconst 35 rfl rfl ?_
  refine qr_imul 36 rfl rfl ?_
  refine qy_v 4 rfl ?_
  refine qr_iload_n 37 rfl rfl rfl ?_
  refine qr_iadd 38 rfl rfl ?_
  refine qy_v 7 rfl ?_
  refine qr_iaload 39 rfl rfl (by decide) (by decide) rfl ?_
  refine qy_v 0 (by decide) ?_
  refine qr_istore _ 41 rfl (by decide) rfl rfl ?_
  refine qr_iload 43 rfl rfl rfl ?_
  refine qr_if_eq 75 46 rfl rfl rfl (by decide) (fun h8 => ?_) (fun h => False.elim (by omega))
  as_aux_lemma =>
    refine qr_getst 78 rfl rfl ?_
    refine qr_iload 80 rfl rfl rfl ?_
    refine qr_iaload 81 rfl rfl (by decide) (by decide) rfl ?_
    refine qy_v 0 (by decide) ?_
    refine qr_istore _ 83 rfl (by decide) rfl rfl ?_
    refine qr_iinc _ 86 rfl rfl (by decide) rfl rfl ?_
    refine qr_goto 6 rfl rfl ?_
    refine qr_iload 8 rfl rfl rfl ?_
    refine qr_getst 11 rfl rfl ?_
    refine qr_alen 12 rfl rfl (by first | exact Or.inl (by decide) | exact Or.inr (Or.inl rfl) | exact Or.inr (Or.inr (Or.inl rfl)) | exact Or.inr (Or.inr (Or.inr (Or.inl rfl)))) rfl ?_
    refine qy_v 7 rfl ?_
    refine qr_icmp_ge 89 15 rfl rfl rfl (by omega) (by decide) (fun h => False.elim (by omega)) (fun h9 => ?_)
    refine qr_iload 17 rfl rfl rfl ?_
    refine qr_if_lt 89 20 rfl rfl rfl (by decide) (fun h => False.elim (by omega)) (fun h10 => ?_)
    refine qr_iload 22 rfl rfl rfl ?_
    refine qr_getst 25 rfl rfl ?_
    refine qr_alen 26 rfl rfl (by first | exact Or.inl (by decide) | exact Or.inr (Or.inl rfl) | exact Or.inr (Or.inr (Or.inl rfl)) | exact Or.inr (Or.inr (Or.inr (Or.inl rfl)))) rfl ?_
    refine qy_v 7 rfl ?_
    refine qr_icmp_ge 89 29 rfl rfl rfl (by decide) (by decide) (fun h => False.elim (by omega)) (fun h11 => ?_)
    refine qr_getst 32 rfl rfl ?_
    refine qr_iload 34 rfl rfl rfl ?_
    refine qr_iconst 35 rfl rfl ?_
    refine qr_imul 36 rfl rfl ?_
    refine qy_v 0 rfl ?_
    refine qr_iload_n 37 rfl rfl rfl ?_
    refine qr_iadd 38 rfl rfl ?_
    refine qy_v 3 rfl ?_
    refine qr_iaload 39 rfl rfl (by decide) (by decide) rfl ?_
    refine qy_v 2 (by decide) ?_
    refine qr_istore _ 41 rfl (by decide) rfl rfl ?_
    refine qr_iload 43 rfl rfl rfl ?_
    refine qr_if_eq 75 46 rfl rfl rfl (by decide) (fun h => False.elim (by omega)) (fun h12 => ?_)
    refine qr_iload 48 rfl rfl rfl ?_
    refine qr_bipush 50 rfl (by decide) rfl ?_
    refine qr_icmp_le 57 53 rfl rfl rfl (qrg r6 (by decide) (by decide)) (by decide) (fun h13 => ?_) (fun h => False.elim (by omega))
    refine qr_aload_n 58 rfl rfl rfl ?_
    refine qr_iload 60 rfl rfl rfl ?_
    refine qr_iload 62 rfl rfl rfl ?_
    refine qr_iload_n 63 rfl rfl rfl ?_
    refine qr_iload 65 rfl rfl rfl ?_
    refine qr_iload 67 rfl rfl rfl ?_
    refine qr_iload 69 rfl rfl rfl ?_
    refine qr_iconst 70 rfl rfl ?_
    refine qr_iadd 71 rfl rfl ?_
    have hs14 : (-2147483648) ≤ σ 42 1 ∧ σ 42 1 ≤ 2147483647 := hI.1 42 1
    refine qr_callN 74 rfl rfl rfl (sf_153_42eb2_0_2 (d := d + 0) hI r4 r5 (by omega) (by omega)) ?_
    rintro _ _ ⟨σ19, α20, rfl, hI21, hG22, hw18, v15, rfl, hv15, hx16, hx17⟩
    have hF23 : qFr [(42, 1)] [43] σ α σ19 α20 := qFr_t hF0 hG22 (by decide) (by decide)
    have hs24 : (-2147483648) ≤ σ19 42 1 ∧ σ19 42 1 ≤ 2147483647 := hI21.1 42 1
    show qr_W (qe L xs vb) (d + 11) qx_e152 _ (74, _, [.int (qz v15)], qw σ19 α20 κ ρ, 0, 0)
    refine qr_retI rfl rfl (by decide) (by decide) ?_
    exact ⟨_, _, rfl, hI21, hF23, (by have hw : σ19 42 1 = (σ19 42 1) := rfl; omega), v15, rfl, hv15, hx16, hx17⟩

set_option maxHeartbeats 4000000 in
set_option maxRecDepth 20000 in
/-- OneRoof$Acts.run -/
theorem sf_151_42er2_3 {L : Nat} {xs : Nat → Int} {vb : Bool} {d : Nat} {σ α : Nat → Nat → Int} {κ : Nat → Option Nat} {ρ : Nat} {x3 : Int} {x4 : Int} {x5 : Int} (hI : qI σ α κ ρ) (r3 : (-2147483648) ≤ x3 ∧ x3 ≤ 2147483647) (r4 : (-2147483648) ≤ x4 ∧ x4 ≤ 2147483647) (r5 : 0 ≤ x5 ∧ x5 ≤ 35) (p0 : 0 ≤ σ 42 1 ∧ σ 42 1 ≤ 17) : qm_T (qe L xs vb) (d + 13) 151 [.ref 42, .int (qz 2), .int (qz 3), .int (qz x3), .int (qz x4), .int (qz x5)] (qw σ α κ ρ) (fun r w' => ∃ σ' α', w' = qw σ' α' κ ρ ∧ qI σ' α' κ ρ ∧ qFr [(42, 1)] [43] σ α σ' α' ∧ σ' 42 1 = σ 42 1 + 7 ∧ ∃ v : Int, r = some (.int (qz v)) ∧ ((-2147483648) ≤ v ∧ v ≤ 2147483647) ∧ v = qac_s (qac_m (qac_a (qac_a (qac_a x3 1) x4) 3) 2) (qac_m (qac_x 1 x4) 3) ∧ α' 43 = qac_t [2, 10, 31, 20, 1, 30, 11] (α 43) (σ 42 1)) := by
  refine qr_start (d := d + 12) qv_e151 (Nat.le_of_ble_eq_true rfl) ?_
  show qr_W (qe L xs vb) (d + 12) qx_e151 _ (0, [(0, .ref 42), (1, .int (qz 2)), (2, .int (qz 3)), (3, .int (qz x3)), (4, .int (qz x4)), (5, .int (qz x5))], [], _, 0, 0)
  have hF0 := qFr_rf [(42, 1)] [43] σ α
  have hz42_1 : (-2147483648) ≤ σ 42 1 ∧ σ 42 1 ≤ 2147483647 := hI.1 42 1
  refine qr_aload_n 1 rfl rfl rfl ?_
  refine qr_iload_n 2 rfl rfl rfl ?_
  refine qr_iload_n 3 rfl rfl rfl ?_
  refine qr_iload_n 4 rfl rfl rfl ?_
  refine qr_iload_n 5 rfl rfl rfl ?_
  refine qr_iload 7 rfl rfl rfl ?_
  refine qr_iload 9 rfl rfl rfl ?_
  have hs1 : (-2147483648) ≤ σ 42 1 ∧ σ 42 1 ≤ 2147483647 := hI.1 42 1
  refine qr_callN 12 rfl rfl rfl (sf_152_42ef2_2_3 (d := d + 0) hI r3 r4 r5 (by omega)) ?_
  rintro _ _ ⟨σ6, α7, rfl, hI8, hG9, hw5, v2, rfl, hv2, hx3, hx4⟩
  have hF10 : qFr [(42, 1)] [43] σ α σ6 α7 := qFr_t hF0 hG9 (by decide) (by decide)
  have hs11 : (-2147483648) ≤ σ6 42 1 ∧ σ6 42 1 ≤ 2147483647 := hI8.1 42 1
  show qr_W (qe L xs vb) (d + 12) qx_e151 _ (12, _, [.int (qz v2)], qw σ6 α7 κ ρ, 0, 0)
  refine qr_retI rfl rfl (by decide) (by decide) ?_
  exact ⟨_, _, rfl, hI8, hF10, (by have hw : σ6 42 1 = (σ6 42 1) := rfl; omega), v2, rfl, hv2, hx3, hx4⟩

set_option maxHeartbeats 4000000 in
set_option maxRecDepth 20000 in
/-- OneRoof$Acts.start -/
theorem sf_150_42es2_3 {L : Nat} {xs : Nat → Int} {vb : Bool} {d : Nat} {σ α : Nat → Nat → Int} {κ : Nat → Option Nat} {ρ : Nat} {x3 : Int} {x4 : Int} (hI : qI σ α κ ρ) (r3 : (-2147483648) ≤ x3 ∧ x3 ≤ 2147483647) (r4 : (-2147483648) ≤ x4 ∧ x4 ≤ 2147483647) (p0 : 0 ≤ σ 42 1 ∧ σ 42 1 ≤ 17) : qm_T (qe L xs vb) (d + 14) 150 [.ref 42, .int (qz 2), .int (qz 3), .int (qz x3), .int (qz x4)] (qw σ α κ ρ) (fun r w' => ∃ σ' α', w' = qw σ' α' κ ρ ∧ qI σ' α' κ ρ ∧ qFr [(42, 1)] [43] σ α σ' α' ∧ σ' 42 1 = σ 42 1 + 7 ∧ ∃ v : Int, r = some (.int (qz v)) ∧ ((-2147483648) ≤ v ∧ v ≤ 2147483647) ∧ v = qac_s (qac_m (qac_a (qac_a (qac_a x3 1) x4) 3) 2) (qac_m (qac_x 1 x4) 3) ∧ α' 43 = qac_t [2, 10, 31, 20, 1, 30, 11] (α 43) (σ 42 1)) := by
  refine qr_start (d := d + 13) qv_e150 (Nat.le_of_ble_eq_true rfl) ?_
  show qr_W (qe L xs vb) (d + 13) qx_e150 _ (0, [(0, .ref 42), (1, .int (qz 2)), (2, .int (qz 3)), (3, .int (qz x3)), (4, .int (qz x4))], [], _, 0, 0)
  have hF0 := qFr_rf [(42, 1)] [43] σ α
  have hz42_1 : (-2147483648) ≤ σ 42 1 ∧ σ 42 1 ≤ 2147483647 := hI.1 42 1
  refine qr_aload_n 1 rfl rfl rfl ?_
  refine qr_iload_n 2 rfl rfl rfl ?_
  refine qr_iload_n 3 rfl rfl rfl ?_
  refine qr_iload_n 4 rfl rfl rfl ?_
  refine qr_iload 6 rfl rfl rfl ?_
  refine qr_iconst 7 rfl rfl ?_
  have hs1 : (-2147483648) ≤ σ 42 1 ∧ σ 42 1 ≤ 2147483647 := hI.1 42 1
  refine qr_callN 10 rfl rfl rfl (sf_151_42er2_3 (d := d + 0) hI r3 r4 (by decide) (by omega)) ?_
  rintro _ _ ⟨σ6, α7, rfl, hI8, hG9, hw5, v2, rfl, hv2, hx3, hx4⟩
  have hF10 : qFr [(42, 1)] [43] σ α σ6 α7 := qFr_t hF0 hG9 (by decide) (by decide)
  have hs11 : (-2147483648) ≤ σ6 42 1 ∧ σ6 42 1 ≤ 2147483647 := hI8.1 42 1
  show qr_W (qe L xs vb) (d + 13) qx_e150 _ (10, _, [.int (qz v2)], qw σ6 α7 κ ρ, 0, 0)
  refine qr_retI rfl rfl (by decide) (by decide) ?_
  exact ⟨_, _, rfl, hI8, hF10, (by have hw : σ6 42 1 = (σ6 42 1) := rfl; omega), v2, rfl, hv2, hx3, hx4⟩

set_option maxHeartbeats 4000000 in
set_option maxRecDepth 20000 in
/-- OneRoof$Acts.begin -/
theorem sf_153_42eb1_0_3 {L : Nat} {xs : Nat → Int} {vb : Bool} {d : Nat} {σ α : Nat → Nat → Int} {κ : Nat → Option Nat} {ρ : Nat} {x4 : Int} {x5 : Int} {x6 : Int} (hI : qI σ α κ ρ) (r4 : (-2147483648) ≤ x4 ∧ x4 ≤ 2147483647) (r5 : (-2147483648) ≤ x5 ∧ x5 ≤ 2147483647) (r6 : 0 ≤ x6 ∧ x6 ≤ 40) (p0 : 0 ≤ σ 42 1 ∧ σ 42 1 ≤ 23) : qm_T (qe L xs vb) (d + 1) 153 [.ref 42, .int (qz 1), .int (qz 0), .int (qz 3), .int (qz x4), .int (qz x5), .int (qz x6)] (qw σ α κ ρ) (fun r w' => ∃ σ' α', w' = qw σ' α' κ ρ ∧ qI σ' α' κ ρ ∧ qFr [(42, 1)] [43] σ α σ' α' ∧ σ' 42 1 = σ 42 1 + 1 ∧ ∃ v : Int, r = some (.int (qz v)) ∧ ((-2147483648) ≤ v ∧ v ≤ 2147483647) ∧ v = qac_a x4 x5 ∧ α' 43 = qac_t [1] (α 43) (σ 42 1)) := by
  refine qr_start (d := d + 0) qv_e153 (Nat.le_of_ble_eq_true rfl) ?_
  show qr_W (qe L xs vb) (d + 0) qx_e153 _ (0, [(0, .ref 42), (1, .int (qz 1)), (2, .int (qz 0)), (3, .int (qz 3)), (4, .int (qz x4)), (5, .int (qz x5)), (6, .int (qz x6))], [], _, 0, 0)
  have hF0 := qFr_rf [(42, 1)] [43] σ α
  have hz42_1 : (-2147483648) ≤ σ 42 1 ∧ σ 42 1 ≤ 2147483647 := hI.1 42 1
  refine qr_aload_n 1 rfl rfl rfl ?_
  refine qr_get 4 rfl rfl rfl (by decide) rfl ?_
  refine qr_aload_n 5 rfl rfl rfl ?_
  refine qr_get 8 rfl rfl rfl (by decide) rfl ?_
  refine qr_alen 9 rfl rfl (by first | exact Or.inl (by decide) | exact Or.inr (Or.inl rfl) | exact Or.inr (Or.inr (Or.inl rfl)) | exact Or.inr (Or.inr (Or.inr (Or.inl rfl)))) rfl ?_
  refine qy_v 24 rfl ?_
  refine qr_icmp_ge 22 12 rfl rfl rfl hz42_1 (by decide) (fun h => False.elim (by omega)) (fun h1 => ?_)
  refine qr_aload_n 13 rfl rfl rfl ?_
  refine qr_get 16 rfl rfl rfl (by decide) rfl ?_
  refine qr_aload_n 17 rfl rfl rfl ?_
  refine qr_get 20 rfl rfl rfl (by decide) rfl ?_
  refine qr_iload_n 21 rfl rfl rfl ?_
  refine qr_iastore 22 rfl (by decide) rfl (by omega) (by decide) rfl ?_
  refine qy_wA (qw_r α 43 (qzu (α 43) ((σ 42 1) : Int).toNat 1)) rfl (fun α2 e3 => ?_)
  have hI4 : qI σ α2 κ ρ := by rw [e3]; exact qI_r hI 43 _ rfl (show (-2147483648) ≤ 1 ∧ 1 ≤ 2147483647 by omega)
  have hF5 : qFr [(42, 1)] [43] σ α σ α2 := by rw [e3]; exact qFr_r hF0 43 _ (by decide)
  refine qr_aload_n 23 rfl rfl rfl ?_
  refine qr_dup 24 rfl rfl rfl ?_
  refine qr_get 27 rfl rfl rfl (by decide) rfl ?_
  refine qr_iconst 28 rfl rfl ?_
  refine qr_iadd 29 rfl rfl ?_
  refine qr_put 32 rfl (by decide) rfl (Nat.le_of_ble_eq_true rfl) (Nat.le_of_ble_eq_true rfl) (Or.inl rfl) (qr_fitI rfl _) rfl ?_
  refine qy_wS (qw_s σ 42 1 ((σ 42 1) + 1)) rfl (fun σ6 e7 => ?_)
  have hI8 : qI σ6 α2 κ ρ := by rw [e7]; exact qI_s hI4 42 1 rfl (show (-2147483648) ≤ ((σ 42 1) + 1) ∧ ((σ 42 1) + 1) ≤ 2147483647 by omega)
  have hF9 : qFr [(42, 1)] [43] σ α σ6 α2 := by rw [e7]; exact qFr_s hF5 42 1 _ (by decide)
  refine qr_getst 35 rfl rfl ?_
  refine qr_iload_n 36 rfl rfl rfl ?_
  refine qr_iaload 37 rfl rfl (by decide) (by decide) rfl ?_
  refine qy_v (-1) (by decide) ?_
  refine qr_istore _ 39 rfl (by decide) rfl rfl ?_
  refine qr_iload_n 40 rfl rfl rfl ?_
  refine qr_look (off := 108) 148 rfl (by omega) (by decide) (by decide) rfl ?_
  refine qr_iload 150 rfl rfl rfl ?_
  refine qr_iload 152 rfl rfl rfl ?_
  refine qr_iadd 153 rfl rfl ?_
  refine qy_canE (fun v10 hv10 hev10 => ?_)
  refine qr_retI rfl rfl (by decide) (by decide) ?_
  exact ⟨_, _, rfl, hI8, hF9, (by have hw : σ6 42 1 = ((σ 42 1) + 1) := (congrFun (congrFun e7 42) 1).trans rfl; omega), v10, rfl, hv10, (qac_v hev10 (by omega)), (((congrFun e3 43).trans (qw_r_eq.trans (congrArg (fun f => qzu f ((σ 42 1) : Int).toNat 1) rfl))))⟩

set_option maxHeartbeats 4000000 in
set_option maxRecDepth 20000 in
/-- OneRoof$Acts.runFrom -/
theorem sf_152_42ef3_3_0 {L : Nat} {xs : Nat → Int} {vb : Bool} {d : Nat} {σ α : Nat → Nat → Int} {κ : Nat → Option Nat} {ρ : Nat} {x4 : Int} {x5 : Int} {x6 : Int} (hI : qI σ α κ ρ) (r4 : (-2147483648) ≤ x4 ∧ x4 ≤ 2147483647) (r5 : (-2147483648) ≤ x5 ∧ x5 ≤ 2147483647) (r6 : 0 ≤ x6 ∧ x6 ≤ 39) (p0 : 0 ≤ σ 42 1 ∧ σ 42 1 ≤ 23) : qm_T (qe L xs vb) (d + 2) 152 [.ref 42, .int (qz 3), .int (qz 3), .int (qz 0), .int (qz x4), .int (qz x5), .int (qz x6)] (qw σ α κ ρ) (fun r w' => ∃ σ' α', w' = qw σ' α' κ ρ ∧ qI σ' α' κ ρ ∧ qFr [(42, 1)] [43] σ α σ' α' ∧ σ' 42 1 = σ 42 1 + 1 ∧ ∃ v : Int, r = some (.int (qz v)) ∧ ((-2147483648) ≤ v ∧ v ≤ 2147483647) ∧ v = qac_a x4 x5 ∧ α' 43 = qac_t [1] (α 43) (σ 42 1)) := by
  refine qr_start (d := d + 1) qv_e152 (Nat.le_of_ble_eq_true rfl) ?_
  show qr_W (qe L xs vb) (d + 1) qx_e152 _ (0, [(0, .ref 42), (1, .int (qz 3)), (2, .int (qz 3)), (3, .int (qz 0)), (4, .int (qz x4)), (5, .int (qz x5)), (6, .int (qz x6))], [], _, 0, 0)
  have hF0 := qFr_rf [(42, 1)] [43] σ α
  have hz42_1 : (-2147483648) ≤ σ 42 1 ∧ σ 42 1 ≤ 2147483647 := hI.1 42 1
  refine qr_iload_n 1 rfl rfl rfl ?_
  refine qr_istore _ 3 rfl (by decide) rfl rfl ?_
  refine qr_iconst 4 rfl rfl ?_
  refine qr_istore _ 6 rfl (by decide) rfl rfl ?_
  refine qr_iload 8 rfl rfl rfl ?_
  refine qr_getst 11 rfl rfl ?_
  refine qr_alen 12 rfl rfl (by first | exact Or.inl (by decide) | exact Or.inr (Or.inl rfl) | exact Or.inr (Or.inr (Or.inl rfl)) | exact Or.inr (Or.inr (Or.inr (Or.inl rfl)))) rfl ?_
  refine qy_v 7 rfl ?_
  refine qr_icmp_ge 89 15 rfl rfl rfl (by decide) (by decide) (fun h => False.elim (by omega)) (fun h1 => ?_)
  refine qr_iload 17 rfl rfl rfl ?_
  refine qr_if_lt 89 20 rfl rfl rfl (by decide) (fun h => False.elim (by omega)) (fun h2 => ?_)
  refine qr_iload 22 rfl rfl rfl ?_
  refine qr_getst 25 rfl rfl ?_
  refine qr_alen 26 rfl rfl (by first | exact Or.inl (by decide) | exact Or.inr (Or.inl rfl) | exact Or.inr (Or.inr (Or.inl rfl)) | exact Or.inr (Or.inr (Or.inr (Or.inl rfl)))) rfl ?_
  refine qy_v 7 rfl ?_
  refine qr_icmp_ge 89 29 rfl rfl rfl (by decide) (by decide) (fun h => False.elim (by omega)) (fun h3 => ?_)
  refine qr_getst 32 rfl rfl ?_
  refine qr_iload 34 rfl rfl rfl ?_
  refine qr_iconst 35 rfl rfl ?_
  refine qr_imul 36 rfl rfl ?_
  refine qy_v 12 rfl ?_
  refine qr_iload_n 37 rfl rfl rfl ?_
  refine qr_iadd 38 rfl rfl ?_
  refine qy_v 12 rfl ?_
  refine qr_iaload 39 rfl rfl (by decide) (by decide) rfl ?_
  refine qy_v 0 (by decide) ?_
  refine qr_istore _ 41 rfl (by decide) rfl rfl ?_
  refine qr_iload 43 rfl rfl rfl ?_
  refine qr_if_eq 75 46 rfl rfl rfl (by decide) (fun h4 => ?_) (fun h => False.elim (by omega))
  refine qr_getst 78 rfl rfl ?_
  refine qr_iload 80 rfl rfl rfl ?_
  refine qr_iaload 81 rfl rfl (by decide) (by decide) rfl ?_
  refine qy_v 0 (by decide) ?_
  refine qr_istore _ 83 rfl (by decide) rfl rfl ?_
  refine qr_iinc _ 86 rfl rfl (by decide) rfl rfl ?_
  refine qr_goto 6 rfl rfl ?_
  refine qr_iload 8 rfl rfl rfl ?_
  refine qr_getst 11 rfl rfl ?_
  refine qr_alen 12 rfl rfl (by first | exact Or.inl (by decide) | exact Or.inr (Or.inl rfl) | exact Or.inr (Or.inr (Or.inl rfl)) | exact Or.inr (Or.inr (Or.inr (Or.inl rfl)))) rfl ?_
  refine qy_v 7 rfl ?_
  refine qr_icmp_ge 89 15 rfl rfl rfl (by omega) (by decide) (fun h => False.elim (by omega)) (fun h5 => ?_)
  refine qr_iload 17 rfl rfl rfl ?_
  refine qr_if_lt 89 20 rfl rfl rfl (by decide) (fun h => False.elim (by omega)) (fun h6 => ?_)
  refine qr_iload 22 rfl rfl rfl ?_
  refine qr_getst 25 rfl rfl ?_
  refine qr_alen 26 rfl rfl (by first | exact Or.inl (by decide) | exact Or.inr (Or.inl rfl) | exact Or.inr (Or.inr (Or.inl rfl)) | exact Or.inr (Or.inr (Or.inr (Or.inl rfl)))) rfl ?_
  refine qy_v 7 rfl ?_
  refine qr_icmp_ge 89 29 rfl rfl rfl (by decide) (by decide) (fun h => False.elim (by omega)) (fun h7 => ?_)
  refine qr_getst 32 rfl rfl ?_
  refine qr_iload 34 rfl rfl rfl ?_
  refine qr_iconst 35 rfl rfl ?_
  refine qr_imul 36 rfl rfl ?_
  refine qy_v 0 rfl ?_
  refine qr_iload_n 37 rfl rfl rfl ?_
  refine qr_iadd 38 rfl rfl ?_
  refine qy_v 0 rfl ?_
  refine qr_iaload 39 rfl rfl (by decide) (by decide) rfl ?_
  refine qy_v 1 (by decide) ?_
  refine qr_istore _ 41 rfl (by decide) rfl rfl ?_
  refine qr_iload 43 rfl rfl rfl ?_
  refine qr_if_eq 75 46 rfl rfl rfl (by decide) (fun h => False.elim (by omega)) (fun h8 => ?_)
  as_aux_lemma =>
    refine qr_iload 48 rfl rfl rfl ?_
    refine qr_bipush 50 rfl (by decide) rfl ?_
    refine qr_icmp_le 57 53 rfl rfl rfl (qrg r6 (by decide) (by decide)) (by decide) (fun h9 => ?_) (fun h => False.elim (by omega))
    refine qr_aload_n 58 rfl rfl rfl ?_
    refine qr_iload 60 rfl rfl rfl ?_
    refine qr_iload 62 rfl rfl rfl ?_
    refine qr_iload_n 63 rfl rfl rfl ?_
    refine qr_iload 65 rfl rfl rfl ?_
    refine qr_iload 67 rfl rfl rfl ?_
    refine qr_iload 69 rfl rfl rfl ?_
    refine qr_iconst 70 rfl rfl ?_
    refine qr_iadd 71 rfl rfl ?_
    have hs10 : (-2147483648) ≤ σ 42 1 ∧ σ 42 1 ≤ 2147483647 := hI.1 42 1
    refine qr_callN 74 rfl rfl rfl (sf_153_42eb1_0_3 (d := d + 0) hI r4 r5 (by omega) (by omega)) ?_
    rintro _ _ ⟨σ15, α16, rfl, hI17, hG18, hw14, v11, rfl, hv11, hx12, hx13⟩
    have hF19 : qFr [(42, 1)] [43] σ α σ15 α16 := qFr_t hF0 hG18 (by decide) (by decide)
    have hs20 : (-2147483648) ≤ σ15 42 1 ∧ σ15 42 1 ≤ 2147483647 := hI17.1 42 1
    show qr_W (qe L xs vb) (d + 1) qx_e152 _ (74, _, [.int (qz v11)], qw σ15 α16 κ ρ, 0, 0)
    refine qr_retI rfl rfl (by decide) (by decide) ?_
    exact ⟨_, _, rfl, hI17, hF19, (by have hw : σ15 42 1 = (σ15 42 1) := rfl; omega), v11, rfl, hv11, hx12, hx13⟩

set_option maxHeartbeats 4000000 in
set_option maxRecDepth 20000 in
/-- OneRoof$Acts.run -/
theorem sf_151_42er3_0 {L : Nat} {xs : Nat → Int} {vb : Bool} {d : Nat} {σ α : Nat → Nat → Int} {κ : Nat → Option Nat} {ρ : Nat} {x3 : Int} {x4 : Int} {x5 : Int} (hI : qI σ α κ ρ) (r3 : (-2147483648) ≤ x3 ∧ x3 ≤ 2147483647) (r4 : (-2147483648) ≤ x4 ∧ x4 ≤ 2147483647) (r5 : 0 ≤ x5 ∧ x5 ≤ 39) (p0 : 0 ≤ σ 42 1 ∧ σ 42 1 ≤ 23) : qm_T (qe L xs vb) (d + 3) 151 [.ref 42, .int (qz 3), .int (qz 0), .int (qz x3), .int (qz x4), .int (qz x5)] (qw σ α κ ρ) (fun r w' => ∃ σ' α', w' = qw σ' α' κ ρ ∧ qI σ' α' κ ρ ∧ qFr [(42, 1)] [43] σ α σ' α' ∧ σ' 42 1 = σ 42 1 + 1 ∧ ∃ v : Int, r = some (.int (qz v)) ∧ ((-2147483648) ≤ v ∧ v ≤ 2147483647) ∧ v = qac_a x3 x4 ∧ α' 43 = qac_t [1] (α 43) (σ 42 1)) := by
  refine qr_start (d := d + 2) qv_e151 (Nat.le_of_ble_eq_true rfl) ?_
  show qr_W (qe L xs vb) (d + 2) qx_e151 _ (0, [(0, .ref 42), (1, .int (qz 3)), (2, .int (qz 0)), (3, .int (qz x3)), (4, .int (qz x4)), (5, .int (qz x5))], [], _, 0, 0)
  have hF0 := qFr_rf [(42, 1)] [43] σ α
  have hz42_1 : (-2147483648) ≤ σ 42 1 ∧ σ 42 1 ≤ 2147483647 := hI.1 42 1
  refine qr_aload_n 1 rfl rfl rfl ?_
  refine qr_iload_n 2 rfl rfl rfl ?_
  refine qr_iload_n 3 rfl rfl rfl ?_
  refine qr_iload_n 4 rfl rfl rfl ?_
  refine qr_iload_n 5 rfl rfl rfl ?_
  refine qr_iload 7 rfl rfl rfl ?_
  refine qr_iload 9 rfl rfl rfl ?_
  have hs1 : (-2147483648) ≤ σ 42 1 ∧ σ 42 1 ≤ 2147483647 := hI.1 42 1
  refine qr_callN 12 rfl rfl rfl (sf_152_42ef3_3_0 (d := d + 0) hI r3 r4 r5 (by omega)) ?_
  rintro _ _ ⟨σ6, α7, rfl, hI8, hG9, hw5, v2, rfl, hv2, hx3, hx4⟩
  have hF10 : qFr [(42, 1)] [43] σ α σ6 α7 := qFr_t hF0 hG9 (by decide) (by decide)
  have hs11 : (-2147483648) ≤ σ6 42 1 ∧ σ6 42 1 ≤ 2147483647 := hI8.1 42 1
  show qr_W (qe L xs vb) (d + 2) qx_e151 _ (12, _, [.int (qz v2)], qw σ6 α7 κ ρ, 0, 0)
  refine qr_retI rfl rfl (by decide) (by decide) ?_
  exact ⟨_, _, rfl, hI8, hF10, (by have hw : σ6 42 1 = (σ6 42 1) := rfl; omega), v2, rfl, hv2, hx3, hx4⟩

set_option maxHeartbeats 4000000 in
set_option maxRecDepth 20000 in
/-- OneRoof$Acts.start -/
theorem sf_150_42es3_0 {L : Nat} {xs : Nat → Int} {vb : Bool} {d : Nat} {σ α : Nat → Nat → Int} {κ : Nat → Option Nat} {ρ : Nat} {x3 : Int} {x4 : Int} (hI : qI σ α κ ρ) (r3 : (-2147483648) ≤ x3 ∧ x3 ≤ 2147483647) (r4 : (-2147483648) ≤ x4 ∧ x4 ≤ 2147483647) (p0 : 0 ≤ σ 42 1 ∧ σ 42 1 ≤ 23) : qm_T (qe L xs vb) (d + 4) 150 [.ref 42, .int (qz 3), .int (qz 0), .int (qz x3), .int (qz x4)] (qw σ α κ ρ) (fun r w' => ∃ σ' α', w' = qw σ' α' κ ρ ∧ qI σ' α' κ ρ ∧ qFr [(42, 1)] [43] σ α σ' α' ∧ σ' 42 1 = σ 42 1 + 1 ∧ ∃ v : Int, r = some (.int (qz v)) ∧ ((-2147483648) ≤ v ∧ v ≤ 2147483647) ∧ v = qac_a x3 x4 ∧ α' 43 = qac_t [1] (α 43) (σ 42 1)) := by
  refine qr_start (d := d + 3) qv_e150 (Nat.le_of_ble_eq_true rfl) ?_
  show qr_W (qe L xs vb) (d + 3) qx_e150 _ (0, [(0, .ref 42), (1, .int (qz 3)), (2, .int (qz 0)), (3, .int (qz x3)), (4, .int (qz x4))], [], _, 0, 0)
  have hF0 := qFr_rf [(42, 1)] [43] σ α
  have hz42_1 : (-2147483648) ≤ σ 42 1 ∧ σ 42 1 ≤ 2147483647 := hI.1 42 1
  refine qr_aload_n 1 rfl rfl rfl ?_
  refine qr_iload_n 2 rfl rfl rfl ?_
  refine qr_iload_n 3 rfl rfl rfl ?_
  refine qr_iload_n 4 rfl rfl rfl ?_
  refine qr_iload 6 rfl rfl rfl ?_
  refine qr_iconst 7 rfl rfl ?_
  have hs1 : (-2147483648) ≤ σ 42 1 ∧ σ 42 1 ≤ 2147483647 := hI.1 42 1
  refine qr_callN 10 rfl rfl rfl (sf_151_42er3_0 (d := d + 0) hI r3 r4 (by decide) (by omega)) ?_
  rintro _ _ ⟨σ6, α7, rfl, hI8, hG9, hw5, v2, rfl, hv2, hx3, hx4⟩
  have hF10 : qFr [(42, 1)] [43] σ α σ6 α7 := qFr_t hF0 hG9 (by decide) (by decide)
  have hs11 : (-2147483648) ≤ σ6 42 1 ∧ σ6 42 1 ≤ 2147483647 := hI8.1 42 1
  show qr_W (qe L xs vb) (d + 3) qx_e150 _ (10, _, [.int (qz v2)], qw σ6 α7 κ ρ, 0, 0)
  refine qr_retI rfl rfl (by decide) (by decide) ?_
  exact ⟨_, _, rfl, hI8, hF10, (by have hw : σ6 42 1 = (σ6 42 1) := rfl; omega), v2, rfl, hv2, hx3, hx4⟩

set_option maxHeartbeats 4000000 in
set_option maxRecDepth 20000 in
/-- OneRoof$Acts.begin -/
theorem sf_153_42eb10_0_3 {L : Nat} {xs : Nat → Int} {vb : Bool} {d : Nat} {σ α : Nat → Nat → Int} {κ : Nat → Option Nat} {ρ : Nat} {x4 : Int} {x5 : Int} {x6 : Int} (hI : qI σ α κ ρ) (r4 : (-2147483648) ≤ x4 ∧ x4 ≤ 2147483647) (r5 : (-2147483648) ≤ x5 ∧ x5 ≤ 2147483647) (r6 : 0 ≤ x6 ∧ x6 ≤ 39) (p0 : 0 ≤ σ 42 1 ∧ σ 42 1 ≤ 22) : qm_T (qe L xs vb) (d + 4) 153 [.ref 42, .int (qz 10), .int (qz 0), .int (qz 3), .int (qz x4), .int (qz x5), .int (qz x6)] (qw σ α κ ρ) (fun r w' => ∃ σ' α', w' = qw σ' α' κ ρ ∧ qI σ' α' κ ρ ∧ qFr [(42, 1)] [43] σ α σ' α' ∧ σ' 42 1 = σ 42 1 + 2 ∧ ∃ v : Int, r = some (.int (qz v)) ∧ ((-2147483648) ≤ v ∧ v ≤ 2147483647) ∧ v = qac_m (qac_a x4 x5) 2 ∧ α' 43 = qac_t [10, 1] (α 43) (σ 42 1)) := by
  refine qr_start (d := d + 3) qv_e153 (Nat.le_of_ble_eq_true rfl) ?_
  show qr_W (qe L xs vb) (d + 3) qx_e153 _ (0, [(0, .ref 42), (1, .int (qz 10)), (2, .int (qz 0)), (3, .int (qz 3)), (4, .int (qz x4)), (5, .int (qz x5)), (6, .int (qz x6))], [], _, 0, 0)
  have hF0 := qFr_rf [(42, 1)] [43] σ α
  have hz42_1 : (-2147483648) ≤ σ 42 1 ∧ σ 42 1 ≤ 2147483647 := hI.1 42 1
  refine qr_aload_n 1 rfl rfl rfl ?_
  refine qr_get 4 rfl rfl rfl (by decide) rfl ?_
  refine qr_aload_n 5 rfl rfl rfl ?_
  refine qr_get 8 rfl rfl rfl (by decide) rfl ?_
  refine qr_alen 9 rfl rfl (by first | exact Or.inl (by decide) | exact Or.inr (Or.inl rfl) | exact Or.inr (Or.inr (Or.inl rfl)) | exact Or.inr (Or.inr (Or.inr (Or.inl rfl)))) rfl ?_
  refine qy_v 24 rfl ?_
  refine qr_icmp_ge 22 12 rfl rfl rfl hz42_1 (by decide) (fun h => False.elim (by omega)) (fun h1 => ?_)
  refine qr_aload_n 13 rfl rfl rfl ?_
  refine qr_get 16 rfl rfl rfl (by decide) rfl ?_
  refine qr_aload_n 17 rfl rfl rfl ?_
  refine qr_get 20 rfl rfl rfl (by decide) rfl ?_
  refine qr_iload_n 21 rfl rfl rfl ?_
  refine qr_iastore 22 rfl (by decide) rfl (by omega) (by decide) rfl ?_
  refine qy_wA (qw_r α 43 (qzu (α 43) ((σ 42 1) : Int).toNat 10)) rfl (fun α2 e3 => ?_)
  have hI4 : qI σ α2 κ ρ := by rw [e3]; exact qI_r hI 43 _ rfl (show (-2147483648) ≤ 10 ∧ 10 ≤ 2147483647 by omega)
  have hF5 : qFr [(42, 1)] [43] σ α σ α2 := by rw [e3]; exact qFr_r hF0 43 _ (by decide)
  refine qr_aload_n 23 rfl rfl rfl ?_
  refine qr_dup 24 rfl rfl rfl ?_
  refine qr_get 27 rfl rfl rfl (by decide) rfl ?_
  refine qr_iconst 28 rfl rfl ?_
  refine qr_iadd 29 rfl rfl ?_
  refine qr_put 32 rfl (by decide) rfl (Nat.le_of_ble_eq_true rfl) (Nat.le_of_ble_eq_true rfl) (Or.inl rfl) (qr_fitI rfl _) rfl ?_
  refine qy_wS (qw_s σ 42 1 ((σ 42 1) + 1)) rfl (fun σ6 e7 => ?_)
  have hI8 : qI σ6 α2 κ ρ := by rw [e7]; exact qI_s hI4 42 1 rfl (show (-2147483648) ≤ ((σ 42 1) + 1) ∧ ((σ 42 1) + 1) ≤ 2147483647 by omega)
  have hF9 : qFr [(42, 1)] [43] σ α σ6 α2 := by rw [e7]; exact qFr_s hF5 42 1 _ (by decide)
  refine qr_getst 35 rfl rfl ?_
  refine qr_iload_n 36 rfl rfl rfl ?_
  refine qr_iaload 37 rfl rfl (by decide) (by decide) rfl ?_
  refine qy_v (-1) (by decide) ?_
  refine qr_istore _ 39 rfl (by decide) rfl rfl ?_
  refine qr_iload_n 40 rfl rfl rfl ?_
  refine qr_look (off := 139) 179 rfl (by omega) (by decide) (by decide) rfl ?_
  refine qr_aload_n 180 rfl rfl rfl ?_
  refine qr_iload_n 181 rfl rfl rfl ?_
  refine qr_iconst 182 rfl rfl ?_
  refine qr_iload 184 rfl rfl rfl ?_
  refine qr_iload 186 rfl rfl rfl ?_
  refine qr_iload 188 rfl rfl rfl ?_
  have hr10 : σ6 42 1 = ((σ 42 1) + 1) := (congrFun (congrFun e7 42) 1).trans rfl
  have hs11 : (-2147483648) ≤ σ6 42 1 ∧ σ6 42 1 ≤ 2147483647 := hI8.1 42 1
  have hs12 : σ6 42 1 = ((σ 42 1) + 1) := (congrFun (congrFun e7 42) 1).trans rfl
  refine qr_callN 191 rfl rfl rfl (sf_151_42er3_0 (d := d + 0) hI8 r4 r5 r6 (by omega)) ?_
  rintro _ _ ⟨σ17, α18, rfl, hI19, hG20, hw16, v13, rfl, hv13, hx14, hx15⟩
  have hF21 : qFr [(42, 1)] [43] σ α σ17 α18 := qFr_t hF9 hG20 (by decide) (by decide)
  have hs22 : (-2147483648) ≤ σ17 42 1 ∧ σ17 42 1 ≤ 2147483647 := hI19.1 42 1
  show qr_W (qe L xs vb) (d + 3) qx_e153 _ (191, _, [.int (qz v13)], qw σ17 α18 κ ρ, 0, 0)
  refine qr_iconst 192 rfl rfl ?_
  refine qr_imul 193 rfl rfl ?_
  refine qy_canE (fun v23 hv23 hev23 => ?_)
  refine qr_retI rfl rfl (by decide) (by decide) ?_
  exact ⟨_, _, rfl, hI19, hF21, (by have hw : σ17 42 1 = (σ17 42 1) := rfl; omega), v23, rfl, hv23, ((qac_v hev23 (by omega)).trans (by rw [hx14]; rfl)), (by rw [hx15, show α2 43 = qzu (α 43) (σ 42 1 : Int).toNat 10 from ((congrFun e3 43).trans (qw_r_eq.trans (congrArg (fun f => qzu f ((σ 42 1) : Int).toNat 10) rfl))), show σ6 42 1 = σ 42 1 + 1 by omega]; rfl)⟩

set_option maxHeartbeats 4000000 in
set_option maxRecDepth 20000 in
/-- OneRoof$Acts.runFrom -/
theorem sf_152_42ef0_3_1 {L : Nat} {xs : Nat → Int} {vb : Bool} {d : Nat} {σ α : Nat → Nat → Int} {κ : Nat → Option Nat} {ρ : Nat} {x4 : Int} {x5 : Int} {x6 : Int} (hI : qI σ α κ ρ) (r4 : (-2147483648) ≤ x4 ∧ x4 ≤ 2147483647) (r5 : (-2147483648) ≤ x5 ∧ x5 ≤ 2147483647) (r6 : 0 ≤ x6 ∧ x6 ≤ 38) (p0 : 0 ≤ σ 42 1 ∧ σ 42 1 ≤ 22) : qm_T (qe L xs vb) (d + 5) 152 [.ref 42, .int (qz 0), .int (qz 3), .int (qz 1), .int (qz x4), .int (qz x5), .int (qz x6)] (qw σ α κ ρ) (fun r w' => ∃ σ' α', w' = qw σ' α' κ ρ ∧ qI σ' α' κ ρ ∧ qFr [(42, 1)] [43] σ α σ' α' ∧ σ' 42 1 = σ 42 1 + 2 ∧ ∃ v : Int, r = some (.int (qz v)) ∧ ((-2147483648) ≤ v ∧ v ≤ 2147483647) ∧ v = qac_m (qac_a x4 x5) 2 ∧ α' 43 = qac_t [10, 1] (α 43) (σ 42 1)) := by
  refine qr_start (d := d + 4) qv_e152 (Nat.le_of_ble_eq_true rfl) ?_
  show qr_W (qe L xs vb) (d + 4) qx_e152 _ (0, [(0, .ref 42), (1, .int (qz 0)), (2, .int (qz 3)), (3, .int (qz 1)), (4, .int (qz x4)), (5, .int (qz x5)), (6, .int (qz x6))], [], _, 0, 0)
  have hF0 := qFr_rf [(42, 1)] [43] σ α
  have hz42_1 : (-2147483648) ≤ σ 42 1 ∧ σ 42 1 ≤ 2147483647 := hI.1 42 1
  refine qr_iload_n 1 rfl rfl rfl ?_
  refine qr_istore _ 3 rfl (by decide) rfl rfl ?_
  refine qr_iconst 4 rfl rfl ?_
  refine qr_istore _ 6 rfl (by decide) rfl rfl ?_
  refine qr_iload 8 rfl rfl rfl ?_
  refine qr_getst 11 rfl rfl ?_
  refine qr_alen 12 rfl rfl (by first | exact Or.inl (by decide) | exact Or.inr (Or.inl rfl) | exact Or.inr (Or.inr (Or.inl rfl)) | exact Or.inr (Or.inr (Or.inr (Or.inl rfl)))) rfl ?_
  refine qy_v 7 rfl ?_
  refine qr_icmp_ge 89 15 rfl rfl rfl (by decide) (by decide) (fun h => False.elim (by omega)) (fun h1 => ?_)
  refine qr_iload 17 rfl rfl rfl ?_
  refine qr_if_lt 89 20 rfl rfl rfl (by decide) (fun h => False.elim (by omega)) (fun h2 => ?_)
  refine qr_iload 22 rfl rfl rfl ?_
  refine qr_getst 25 rfl rfl ?_
  refine qr_alen 26 rfl rfl (by first | exact Or.inl (by decide) | exact Or.inr (Or.inl rfl) | exact Or.inr (Or.inr (Or.inl rfl)) | exact Or.inr (Or.inr (Or.inr (Or.inl rfl)))) rfl ?_
  refine qy_v 7 rfl ?_
  refine qr_icmp_ge 89 29 rfl rfl rfl (by decide) (by decide) (fun h => False.elim (by omega)) (fun h3 => ?_)
  refine qr_getst 32 rfl rfl ?_
  refine qr_iload 34 rfl rfl rfl ?_
  refine qr_iconst 35 rfl rfl ?_
  refine qr_imul 36 rfl rfl ?_
  refine qy_v 0 rfl ?_
  refine qr_iload_n 37 rfl rfl rfl ?_
  refine qr_iadd 38 rfl rfl ?_
  refine qy_v 1 rfl ?_
  refine qr_iaload 39 rfl rfl (by decide) (by decide) rfl ?_
  refine qy_v 10 (by decide) ?_
  refine qr_istore _ 41 rfl (by decide) rfl rfl ?_
  refine qr_iload 43 rfl rfl rfl ?_
  refine qr_if_eq 75 46 rfl rfl rfl (by decide) (fun h => False.elim (by omega)) (fun h4 => ?_)
  refine qr_iload 48 rfl rfl rfl ?_
  refine qr_bipush 50 rfl (by decide) rfl ?_
  refine qr_icmp_le 57 53 rfl rfl rfl (qrg r6 (by decide) (by decide)) (by decide) (fun h5 => ?_) (fun h => False.elim (by omega))
  refine qr_aload_n 58 rfl rfl rfl ?_
  refine qr_iload 60 rfl rfl rfl ?_
  refine qr_iload 62 rfl rfl rfl ?_
  refine qr_iload_n 63 rfl rfl rfl ?_
  refine qr_iload 65 rfl rfl rfl ?_
  refine qr_iload 67 rfl rfl rfl ?_
  refine qr_iload 69 rfl rfl rfl ?_
  refine qr_iconst 70 rfl rfl ?_
  refine qr_iadd 71 rfl rfl ?_
  have hs6 : (-2147483648) ≤ σ 42 1 ∧ σ 42 1 ≤ 2147483647 := hI.1 42 1
  refine qr_callN 74 rfl rfl rfl (sf_153_42eb10_0_3 (d := d + 0) hI r4 r5 (by omega) (by omega)) ?_
  rintro _ _ ⟨σ11, α12, rfl, hI13, hG14, hw10, v7, rfl, hv7, hx8, hx9⟩
  have hF15 : qFr [(42, 1)] [43] σ α σ11 α12 := qFr_t hF0 hG14 (by decide) (by decide)
  have hs16 : (-2147483648) ≤ σ11 42 1 ∧ σ11 42 1 ≤ 2147483647 := hI13.1 42 1
  show qr_W (qe L xs vb) (d + 4) qx_e152 _ (74, _, [.int (qz v7)], qw σ11 α12 κ ρ, 0, 0)
  refine qr_retI rfl rfl (by decide) (by decide) ?_
  exact ⟨_, _, rfl, hI13, hF15, (by have hw : σ11 42 1 = (σ11 42 1) := rfl; omega), v7, rfl, hv7, hx8, hx9⟩

set_option maxHeartbeats 4000000 in
set_option maxRecDepth 20000 in
/-- OneRoof$Acts.begin -/
theorem sf_153_42eb40_3_3 {L : Nat} {xs : Nat → Int} {vb : Bool} {d : Nat} {σ α : Nat → Nat → Int} {κ : Nat → Option Nat} {ρ : Nat} {x4 : Int} {x5 : Int} {x6 : Int} (hI : qI σ α κ ρ) (r4 : (-2147483648) ≤ x4 ∧ x4 ≤ 2147483647) (r5 : (-2147483648) ≤ x5 ∧ x5 ≤ 2147483647) (r6 : 0 ≤ x6 ∧ x6 ≤ 38) (p0 : 0 ≤ σ 42 1 ∧ σ 42 1 ≤ 21) : qm_T (qe L xs vb) (d + 6) 153 [.ref 42, .int (qz 40), .int (qz 3), .int (qz 3), .int (qz x4), .int (qz x5), .int (qz x6)] (qw σ α κ ρ) (fun r w' => ∃ σ' α', w' = qw σ' α' κ ρ ∧ qI σ' α' κ ρ ∧ qFr [(42, 1)] [43] σ α σ' α' ∧ σ' 42 1 = σ 42 1 + 3 ∧ ∃ v : Int, r = some (.int (qz v)) ∧ ((-2147483648) ≤ v ∧ v ≤ 2147483647) ∧ v = qac_n (qac_m (qac_a x4 x5) 2) ∧ α' 43 = qac_t [40, 10, 1] (α 43) (σ 42 1)) := by
  refine qr_start (d := d + 5) qv_e153 (Nat.le_of_ble_eq_true rfl) ?_
  show qr_W (qe L xs vb) (d + 5) qx_e153 _ (0, [(0, .ref 42), (1, .int (qz 40)), (2, .int (qz 3)), (3, .int (qz 3)), (4, .int (qz x4)), (5, .int (qz x5)), (6, .int (qz x6))], [], _, 0, 0)
  have hF0 := qFr_rf [(42, 1)] [43] σ α
  have hz42_1 : (-2147483648) ≤ σ 42 1 ∧ σ 42 1 ≤ 2147483647 := hI.1 42 1
  refine qr_aload_n 1 rfl rfl rfl ?_
  refine qr_get 4 rfl rfl rfl (by decide) rfl ?_
  refine qr_aload_n 5 rfl rfl rfl ?_
  refine qr_get 8 rfl rfl rfl (by decide) rfl ?_
  refine qr_alen 9 rfl rfl (by first | exact Or.inl (by decide) | exact Or.inr (Or.inl rfl) | exact Or.inr (Or.inr (Or.inl rfl)) | exact Or.inr (Or.inr (Or.inr (Or.inl rfl)))) rfl ?_
  refine qy_v 24 rfl ?_
  refine qr_icmp_ge 22 12 rfl rfl rfl hz42_1 (by decide) (fun h => False.elim (by omega)) (fun h1 => ?_)
  refine qr_aload_n 13 rfl rfl rfl ?_
  refine qr_get 16 rfl rfl rfl (by decide) rfl ?_
  refine qr_aload_n 17 rfl rfl rfl ?_
  refine qr_get 20 rfl rfl rfl (by decide) rfl ?_
  refine qr_iload_n 21 rfl rfl rfl ?_
  refine qr_iastore 22 rfl (by decide) rfl (by omega) (by decide) rfl ?_
  refine qy_wA (qw_r α 43 (qzu (α 43) ((σ 42 1) : Int).toNat 40)) rfl (fun α2 e3 => ?_)
  have hI4 : qI σ α2 κ ρ := by rw [e3]; exact qI_r hI 43 _ rfl (show (-2147483648) ≤ 40 ∧ 40 ≤ 2147483647 by omega)
  have hF5 : qFr [(42, 1)] [43] σ α σ α2 := by rw [e3]; exact qFr_r hF0 43 _ (by decide)
  refine qr_aload_n 23 rfl rfl rfl ?_
  refine qr_dup 24 rfl rfl rfl ?_
  refine qr_get 27 rfl rfl rfl (by decide) rfl ?_
  refine qr_iconst 28 rfl rfl ?_
  refine qr_iadd 29 rfl rfl ?_
  refine qr_put 32 rfl (by decide) rfl (Nat.le_of_ble_eq_true rfl) (Nat.le_of_ble_eq_true rfl) (Or.inl rfl) (qr_fitI rfl _) rfl ?_
  refine qy_wS (qw_s σ 42 1 ((σ 42 1) + 1)) rfl (fun σ6 e7 => ?_)
  have hI8 : qI σ6 α2 κ ρ := by rw [e7]; exact qI_s hI4 42 1 rfl (show (-2147483648) ≤ ((σ 42 1) + 1) ∧ ((σ 42 1) + 1) ≤ 2147483647 by omega)
  have hF9 : qFr [(42, 1)] [43] σ α σ6 α2 := by rw [e7]; exact qFr_s hF5 42 1 _ (by decide)
  refine qr_getst 35 rfl rfl ?_
  refine qr_iload_n 36 rfl rfl rfl ?_
  refine qr_iaload 37 rfl rfl (by decide) (by decide) rfl ?_
  refine qy_v 0 (by decide) ?_
  refine qr_istore _ 39 rfl (by decide) rfl rfl ?_
  refine qr_iload_n 40 rfl rfl rfl ?_
  refine qr_look (off := 211) 251 rfl (by omega) (by decide) (by decide) rfl ?_
  refine qr_aload_n 252 rfl rfl rfl ?_
  refine qr_iload 254 rfl rfl rfl ?_
  refine qr_iload_n 255 rfl rfl rfl ?_
  refine qr_iconst 256 rfl rfl ?_
  refine qr_iload 258 rfl rfl rfl ?_
  refine qr_iload 260 rfl rfl rfl ?_
  refine qr_iload 262 rfl rfl rfl ?_
  have hr10 : σ6 42 1 = ((σ 42 1) + 1) := (congrFun (congrFun e7 42) 1).trans rfl
  have hs11 : (-2147483648) ≤ σ6 42 1 ∧ σ6 42 1 ≤ 2147483647 := hI8.1 42 1
  have hs12 : σ6 42 1 = ((σ 42 1) + 1) := (congrFun (congrFun e7 42) 1).trans rfl
  refine qr_callN 265 rfl rfl rfl (sf_152_42ef0_3_1 (d := d + 0) hI8 r4 r5 r6 (by omega)) ?_
  rintro _ _ ⟨σ17, α18, rfl, hI19, hG20, hw16, v13, rfl, hv13, hx14, hx15⟩
  have hF21 : qFr [(42, 1)] [43] σ α σ17 α18 := qFr_t hF9 hG20 (by decide) (by decide)
  have hs22 : (-2147483648) ≤ σ17 42 1 ∧ σ17 42 1 ≤ 2147483647 := hI19.1 42 1
  show qr_W (qe L xs vb) (d + 5) qx_e153 _ (265, _, [.int (qz v13)], qw σ17 α18 κ ρ, 0, 0)
  refine qr_ineg 266 rfl rfl ?_
  refine qy_canE (fun v23 hv23 hev23 => ?_)
  refine qr_retI rfl rfl (by decide) (by decide) ?_
  exact ⟨_, _, rfl, hI19, hF21, (by have hw : σ17 42 1 = (σ17 42 1) := rfl; omega), v23, rfl, hv23, ((qac_v hev23 (by omega)).trans (by rw [hx14]; rfl)), (by rw [hx15, show α2 43 = qzu (α 43) (σ 42 1 : Int).toNat 40 from ((congrFun e3 43).trans (qw_r_eq.trans (congrArg (fun f => qzu f ((σ 42 1) : Int).toNat 40) rfl))), show σ6 42 1 = σ 42 1 + 1 by omega]; rfl)⟩

set_option maxHeartbeats 4000000 in
set_option maxRecDepth 20000 in
/-- OneRoof$Acts.runFrom -/
theorem sf_152_42ef3_3_1 {L : Nat} {xs : Nat → Int} {vb : Bool} {d : Nat} {σ α : Nat → Nat → Int} {κ : Nat → Option Nat} {ρ : Nat} {x4 : Int} {x5 : Int} {x6 : Int} (hI : qI σ α κ ρ) (r4 : (-2147483648) ≤ x4 ∧ x4 ≤ 2147483647) (r5 : (-2147483648) ≤ x5 ∧ x5 ≤ 2147483647) (r6 : 0 ≤ x6 ∧ x6 ≤ 37) (p0 : 0 ≤ σ 42 1 ∧ σ 42 1 ≤ 21) : qm_T (qe L xs vb) (d + 7) 152 [.ref 42, .int (qz 3), .int (qz 3), .int (qz 1), .int (qz x4), .int (qz x5), .int (qz x6)] (qw σ α κ ρ) (fun r w' => ∃ σ' α', w' = qw σ' α' κ ρ ∧ qI σ' α' κ ρ ∧ qFr [(42, 1)] [43] σ α σ' α' ∧ σ' 42 1 = σ 42 1 + 3 ∧ ∃ v : Int, r = some (.int (qz v)) ∧ ((-2147483648) ≤ v ∧ v ≤ 2147483647) ∧ v = qac_n (qac_m (qac_a x4 x5) 2) ∧ α' 43 = qac_t [40, 10, 1] (α 43) (σ 42 1)) := by
  refine qr_start (d := d + 6) qv_e152 (Nat.le_of_ble_eq_true rfl) ?_
  show qr_W (qe L xs vb) (d + 6) qx_e152 _ (0, [(0, .ref 42), (1, .int (qz 3)), (2, .int (qz 3)), (3, .int (qz 1)), (4, .int (qz x4)), (5, .int (qz x5)), (6, .int (qz x6))], [], _, 0, 0)
  have hF0 := qFr_rf [(42, 1)] [43] σ α
  have hz42_1 : (-2147483648) ≤ σ 42 1 ∧ σ 42 1 ≤ 2147483647 := hI.1 42 1
  refine qr_iload_n 1 rfl rfl rfl ?_
  refine qr_istore _ 3 rfl (by decide) rfl rfl ?_
  refine qr_iconst 4 rfl rfl ?_
  refine qr_istore _ 6 rfl (by decide) rfl rfl ?_
  refine qr_iload 8 rfl rfl rfl ?_
  refine qr_getst 11 rfl rfl ?_
  refine qr_alen 12 rfl rfl (by first | exact Or.inl (by decide) | exact Or.inr (Or.inl rfl) | exact Or.inr (Or.inr (Or.inl rfl)) | exact Or.inr (Or.inr (Or.inr (Or.inl rfl)))) rfl ?_
  refine qy_v 7 rfl ?_
  refine qr_icmp_ge 89 15 rfl rfl rfl (by decide) (by decide) (fun h => False.elim (by omega)) (fun h1 => ?_)
  refine qr_iload 17 rfl rfl rfl ?_
  refine qr_if_lt 89 20 rfl rfl rfl (by decide) (fun h => False.elim (by omega)) (fun h2 => ?_)
  refine qr_iload 22 rfl rfl rfl ?_
  refine qr_getst 25 rfl rfl ?_
  refine qr_alen 26 rfl rfl (by first | exact Or.inl (by decide) | exact Or.inr (Or.inl rfl) | exact Or.inr (Or.inr (Or.inl rfl)) | exact Or.inr (Or.inr (Or.inr (Or.inl rfl)))) rfl ?_
  refine qy_v 7 rfl ?_
  refine qr_icmp_ge 89 29 rfl rfl rfl (by decide) (by decide) (fun h => False.elim (by omega)) (fun h3 => ?_)
  refine qr_getst 32 rfl rfl ?_
  refine qr_iload 34 rfl rfl rfl ?_
  refine qr_iconst 35 rfl rfl ?_
  refine qr_imul 36 rfl rfl ?_
  refine qy_v 12 rfl ?_
  refine qr_iload_n 37 rfl rfl rfl ?_
  refine qr_iadd 38 rfl rfl ?_
  refine qy_v 13 rfl ?_
  refine qr_iaload 39 rfl rfl (by decide) (by decide) rfl ?_
  refine qy_v 40 (by decide) ?_
  refine qr_istore _ 41 rfl (by decide) rfl rfl ?_
  refine qr_iload 43 rfl rfl rfl ?_
  refine qr_if_eq 75 46 rfl rfl rfl (by decide) (fun h => False.elim (by omega)) (fun h4 => ?_)
  refine qr_iload 48 rfl rfl rfl ?_
  refine qr_bipush 50 rfl (by decide) rfl ?_
  refine qr_icmp_le 57 53 rfl rfl rfl (qrg r6 (by decide) (by decide)) (by decide) (fun h5 => ?_) (fun h => False.elim (by omega))
  refine qr_aload_n 58 rfl rfl rfl ?_
  refine qr_iload 60 rfl rfl rfl ?_
  refine qr_iload 62 rfl rfl rfl ?_
  refine qr_iload_n 63 rfl rfl rfl ?_
  refine qr_iload 65 rfl rfl rfl ?_
  refine qr_iload 67 rfl rfl rfl ?_
  refine qr_iload 69 rfl rfl rfl ?_
  refine qr_iconst 70 rfl rfl ?_
  refine qr_iadd 71 rfl rfl ?_
  have hs6 : (-2147483648) ≤ σ 42 1 ∧ σ 42 1 ≤ 2147483647 := hI.1 42 1
  refine qr_callN 74 rfl rfl rfl (sf_153_42eb40_3_3 (d := d + 0) hI r4 r5 (by omega) (by omega)) ?_
  rintro _ _ ⟨σ11, α12, rfl, hI13, hG14, hw10, v7, rfl, hv7, hx8, hx9⟩
  have hF15 : qFr [(42, 1)] [43] σ α σ11 α12 := qFr_t hF0 hG14 (by decide) (by decide)
  have hs16 : (-2147483648) ≤ σ11 42 1 ∧ σ11 42 1 ≤ 2147483647 := hI13.1 42 1
  show qr_W (qe L xs vb) (d + 6) qx_e152 _ (74, _, [.int (qz v7)], qw σ11 α12 κ ρ, 0, 0)
  refine qr_retI rfl rfl (by decide) (by decide) ?_
  exact ⟨_, _, rfl, hI13, hF15, (by have hw : σ11 42 1 = (σ11 42 1) := rfl; omega), v7, rfl, hv7, hx8, hx9⟩

set_option maxHeartbeats 4000000 in
set_option maxRecDepth 20000 in
/-- OneRoof$Acts.run -/
theorem sf_151_42er3_1 {L : Nat} {xs : Nat → Int} {vb : Bool} {d : Nat} {σ α : Nat → Nat → Int} {κ : Nat → Option Nat} {ρ : Nat} {x3 : Int} {x4 : Int} {x5 : Int} (hI : qI σ α κ ρ) (r3 : (-2147483648) ≤ x3 ∧ x3 ≤ 2147483647) (r4 : (-2147483648) ≤ x4 ∧ x4 ≤ 2147483647) (r5 : 0 ≤ x5 ∧ x5 ≤ 37) (p0 : 0 ≤ σ 42 1 ∧ σ 42 1 ≤ 21) : qm_T (qe L xs vb) (d + 8) 151 [.ref 42, .int (qz 3), .int (qz 1), .int (qz x3), .int (qz x4), .int (qz x5)] (qw σ α κ ρ) (fun r w' => ∃ σ' α', w' = qw σ' α' κ ρ ∧ qI σ' α' κ ρ ∧ qFr [(42, 1)] [43] σ α σ' α' ∧ σ' 42 1 = σ 42 1 + 3 ∧ ∃ v : Int, r = some (.int (qz v)) ∧ ((-2147483648) ≤ v ∧ v ≤ 2147483647) ∧ v = qac_n (qac_m (qac_a x3 x4) 2) ∧ α' 43 = qac_t [40, 10, 1] (α 43) (σ 42 1)) := by
  refine qr_start (d := d + 7) qv_e151 (Nat.le_of_ble_eq_true rfl) ?_
  show qr_W (qe L xs vb) (d + 7) qx_e151 _ (0, [(0, .ref 42), (1, .int (qz 3)), (2, .int (qz 1)), (3, .int (qz x3)), (4, .int (qz x4)), (5, .int (qz x5))], [], _, 0, 0)
  have hF0 := qFr_rf [(42, 1)] [43] σ α
  have hz42_1 : (-2147483648) ≤ σ 42 1 ∧ σ 42 1 ≤ 2147483647 := hI.1 42 1
  refine qr_aload_n 1 rfl rfl rfl ?_
  refine qr_iload_n 2 rfl rfl rfl ?_
  refine qr_iload_n 3 rfl rfl rfl ?_
  refine qr_iload_n 4 rfl rfl rfl ?_
  refine qr_iload_n 5 rfl rfl rfl ?_
  refine qr_iload 7 rfl rfl rfl ?_
  refine qr_iload 9 rfl rfl rfl ?_
  have hs1 : (-2147483648) ≤ σ 42 1 ∧ σ 42 1 ≤ 2147483647 := hI.1 42 1
  refine qr_callN 12 rfl rfl rfl (sf_152_42ef3_3_1 (d := d + 0) hI r3 r4 r5 (by omega)) ?_
  rintro _ _ ⟨σ6, α7, rfl, hI8, hG9, hw5, v2, rfl, hv2, hx3, hx4⟩
  have hF10 : qFr [(42, 1)] [43] σ α σ6 α7 := qFr_t hF0 hG9 (by decide) (by decide)
  have hs11 : (-2147483648) ≤ σ6 42 1 ∧ σ6 42 1 ≤ 2147483647 := hI8.1 42 1
  show qr_W (qe L xs vb) (d + 7) qx_e151 _ (12, _, [.int (qz v2)], qw σ6 α7 κ ρ, 0, 0)
  refine qr_retI rfl rfl (by decide) (by decide) ?_
  exact ⟨_, _, rfl, hI8, hF10, (by have hw : σ6 42 1 = (σ6 42 1) := rfl; omega), v2, rfl, hv2, hx3, hx4⟩

set_option maxHeartbeats 4000000 in
set_option maxRecDepth 20000 in
/-- OneRoof$Acts.start -/
theorem sf_150_42es3_1 {L : Nat} {xs : Nat → Int} {vb : Bool} {d : Nat} {σ α : Nat → Nat → Int} {κ : Nat → Option Nat} {ρ : Nat} {x3 : Int} {x4 : Int} (hI : qI σ α κ ρ) (r3 : (-2147483648) ≤ x3 ∧ x3 ≤ 2147483647) (r4 : (-2147483648) ≤ x4 ∧ x4 ≤ 2147483647) (p0 : 0 ≤ σ 42 1 ∧ σ 42 1 ≤ 21) : qm_T (qe L xs vb) (d + 9) 150 [.ref 42, .int (qz 3), .int (qz 1), .int (qz x3), .int (qz x4)] (qw σ α κ ρ) (fun r w' => ∃ σ' α', w' = qw σ' α' κ ρ ∧ qI σ' α' κ ρ ∧ qFr [(42, 1)] [43] σ α σ' α' ∧ σ' 42 1 = σ 42 1 + 3 ∧ ∃ v : Int, r = some (.int (qz v)) ∧ ((-2147483648) ≤ v ∧ v ≤ 2147483647) ∧ v = qac_n (qac_m (qac_a x3 x4) 2) ∧ α' 43 = qac_t [40, 10, 1] (α 43) (σ 42 1)) := by
  refine qr_start (d := d + 8) qv_e150 (Nat.le_of_ble_eq_true rfl) ?_
  show qr_W (qe L xs vb) (d + 8) qx_e150 _ (0, [(0, .ref 42), (1, .int (qz 3)), (2, .int (qz 1)), (3, .int (qz x3)), (4, .int (qz x4))], [], _, 0, 0)
  have hF0 := qFr_rf [(42, 1)] [43] σ α
  have hz42_1 : (-2147483648) ≤ σ 42 1 ∧ σ 42 1 ≤ 2147483647 := hI.1 42 1
  refine qr_aload_n 1 rfl rfl rfl ?_
  refine qr_iload_n 2 rfl rfl rfl ?_
  refine qr_iload_n 3 rfl rfl rfl ?_
  refine qr_iload_n 4 rfl rfl rfl ?_
  refine qr_iload 6 rfl rfl rfl ?_
  refine qr_iconst 7 rfl rfl ?_
  have hs1 : (-2147483648) ≤ σ 42 1 ∧ σ 42 1 ≤ 2147483647 := hI.1 42 1
  refine qr_callN 10 rfl rfl rfl (sf_151_42er3_1 (d := d + 0) hI r3 r4 (by decide) (by omega)) ?_
  rintro _ _ ⟨σ6, α7, rfl, hI8, hG9, hw5, v2, rfl, hv2, hx3, hx4⟩
  have hF10 : qFr [(42, 1)] [43] σ α σ6 α7 := qFr_t hF0 hG9 (by decide) (by decide)
  have hs11 : (-2147483648) ≤ σ6 42 1 ∧ σ6 42 1 ≤ 2147483647 := hI8.1 42 1
  show qr_W (qe L xs vb) (d + 8) qx_e150 _ (10, _, [.int (qz v2)], qw σ6 α7 κ ρ, 0, 0)
  refine qr_retI rfl rfl (by decide) (by decide) ?_
  exact ⟨_, _, rfl, hI8, hF10, (by have hw : σ6 42 1 = (σ6 42 1) := rfl; omega), v2, rfl, hv2, hx3, hx4⟩

set_option maxHeartbeats 4000000 in
set_option maxRecDepth 20000 in
/-- OneRoof$Acts.begin -/
theorem sf_153_42eb11_0_3 {L : Nat} {xs : Nat → Int} {vb : Bool} {d : Nat} {σ α : Nat → Nat → Int} {κ : Nat → Option Nat} {ρ : Nat} {x4 : Int} {x5 : Int} {x6 : Int} (hI : qI σ α κ ρ) (r4 : (-2147483648) ≤ x4 ∧ x4 ≤ 2147483647) (r5 : (-2147483648) ≤ x5 ∧ x5 ≤ 2147483647) (r6 : 0 ≤ x6 ∧ x6 ≤ 40) (p0 : 0 ≤ σ 42 1 ∧ σ 42 1 ≤ 23) : qm_T (qe L xs vb) (d + 1) 153 [.ref 42, .int (qz 11), .int (qz 0), .int (qz 3), .int (qz x4), .int (qz x5), .int (qz x6)] (qw σ α κ ρ) (fun r w' => ∃ σ' α', w' = qw σ' α' κ ρ ∧ qI σ' α' κ ρ ∧ qFr [(42, 1)] [43] σ α σ' α' ∧ σ' 42 1 = σ 42 1 + 1 ∧ ∃ v : Int, r = some (.int (qz v)) ∧ ((-2147483648) ≤ v ∧ v ≤ 2147483647) ∧ v = qac_x x4 x5 ∧ α' 43 = qac_t [11] (α 43) (σ 42 1)) := by
  refine qr_start (d := d + 0) qv_e153 (Nat.le_of_ble_eq_true rfl) ?_
  show qr_W (qe L xs vb) (d + 0) qx_e153 _ (0, [(0, .ref 42), (1, .int (qz 11)), (2, .int (qz 0)), (3, .int (qz 3)), (4, .int (qz x4)), (5, .int (qz x5)), (6, .int (qz x6))], [], _, 0, 0)
  have hF0 := qFr_rf [(42, 1)] [43] σ α
  have hz42_1 : (-2147483648) ≤ σ 42 1 ∧ σ 42 1 ≤ 2147483647 := hI.1 42 1
  refine qr_aload_n 1 rfl rfl rfl ?_
  refine qr_get 4 rfl rfl rfl (by decide) rfl ?_
  refine qr_aload_n 5 rfl rfl rfl ?_
  refine qr_get 8 rfl rfl rfl (by decide) rfl ?_
  refine qr_alen 9 rfl rfl (by first | exact Or.inl (by decide) | exact Or.inr (Or.inl rfl) | exact Or.inr (Or.inr (Or.inl rfl)) | exact Or.inr (Or.inr (Or.inr (Or.inl rfl)))) rfl ?_
  refine qy_v 24 rfl ?_
  refine qr_icmp_ge 22 12 rfl rfl rfl hz42_1 (by decide) (fun h => False.elim (by omega)) (fun h1 => ?_)
  refine qr_aload_n 13 rfl rfl rfl ?_
  refine qr_get 16 rfl rfl rfl (by decide) rfl ?_
  refine qr_aload_n 17 rfl rfl rfl ?_
  refine qr_get 20 rfl rfl rfl (by decide) rfl ?_
  refine qr_iload_n 21 rfl rfl rfl ?_
  refine qr_iastore 22 rfl (by decide) rfl (by omega) (by decide) rfl ?_
  refine qy_wA (qw_r α 43 (qzu (α 43) ((σ 42 1) : Int).toNat 11)) rfl (fun α2 e3 => ?_)
  have hI4 : qI σ α2 κ ρ := by rw [e3]; exact qI_r hI 43 _ rfl (show (-2147483648) ≤ 11 ∧ 11 ≤ 2147483647 by omega)
  have hF5 : qFr [(42, 1)] [43] σ α σ α2 := by rw [e3]; exact qFr_r hF0 43 _ (by decide)
  refine qr_aload_n 23 rfl rfl rfl ?_
  refine qr_dup 24 rfl rfl rfl ?_
  refine qr_get 27 rfl rfl rfl (by decide) rfl ?_
  refine qr_iconst 28 rfl rfl ?_
  refine qr_iadd 29 rfl rfl ?_
  refine qr_put 32 rfl (by decide) rfl (Nat.le_of_ble_eq_true rfl) (Nat.le_of_ble_eq_true rfl) (Or.inl rfl) (qr_fitI rfl _) rfl ?_
  refine qy_wS (qw_s σ 42 1 ((σ 42 1) + 1)) rfl (fun σ6 e7 => ?_)
  have hI8 : qI σ6 α2 κ ρ := by rw [e7]; exact qI_s hI4 42 1 rfl (show (-2147483648) ≤ ((σ 42 1) + 1) ∧ ((σ 42 1) + 1) ≤ 2147483647 by omega)
  have hF9 : qFr [(42, 1)] [43] σ α σ6 α2 := by rw [e7]; exact qFr_s hF5 42 1 _ (by decide)
  refine qr_getst 35 rfl rfl ?_
  refine qr_iload_n 36 rfl rfl rfl ?_
  refine qr_iaload 37 rfl rfl (by decide) (by decide) rfl ?_
  refine qy_v (-1) (by decide) ?_
  refine qr_istore _ 39 rfl (by decide) rfl rfl ?_
  refine qr_iload_n 40 rfl rfl rfl ?_
  refine qr_look (off := 154) 194 rfl (by omega) (by decide) (by decide) rfl ?_
  refine qr_iload 196 rfl rfl rfl ?_
  refine qr_iload 198 rfl rfl rfl ?_
  refine qr_ixor 199 rfl rfl ?_
  refine qy_canE (fun v10 hv10 hev10 => ?_)
  refine qr_retI rfl rfl (by decide) (by decide) ?_
  exact ⟨_, _, rfl, hI8, hF9, (by have hw : σ6 42 1 = ((σ 42 1) + 1) := (congrFun (congrFun e7 42) 1).trans rfl; omega), v10, rfl, hv10, (qac_v hev10 (by omega)), (((congrFun e3 43).trans (qw_r_eq.trans (congrArg (fun f => qzu f ((σ 42 1) : Int).toNat 11) rfl))))⟩

set_option maxHeartbeats 4000000 in
set_option maxRecDepth 20000 in
/-- OneRoof$Acts.runFrom -/
theorem sf_152_42ef3_3_2 {L : Nat} {xs : Nat → Int} {vb : Bool} {d : Nat} {σ α : Nat → Nat → Int} {κ : Nat → Option Nat} {ρ : Nat} {x4 : Int} {x5 : Int} {x6 : Int} (hI : qI σ α κ ρ) (r4 : (-2147483648) ≤ x4 ∧ x4 ≤ 2147483647) (r5 : (-2147483648) ≤ x5 ∧ x5 ≤ 2147483647) (r6 : 0 ≤ x6 ∧ x6 ≤ 39) (p0 : 0 ≤ σ 42 1 ∧ σ 42 1 ≤ 23) : qm_T (qe L xs vb) (d + 2) 152 [.ref 42, .int (qz 3), .int (qz 3), .int (qz 2), .int (qz x4), .int (qz x5), .int (qz x6)] (qw σ α κ ρ) (fun r w' => ∃ σ' α', w' = qw σ' α' κ ρ ∧ qI σ' α' κ ρ ∧ qFr [(42, 1)] [43] σ α σ' α' ∧ σ' 42 1 = σ 42 1 + 1 ∧ ∃ v : Int, r = some (.int (qz v)) ∧ ((-2147483648) ≤ v ∧ v ≤ 2147483647) ∧ v = qac_x x4 x5 ∧ α' 43 = qac_t [11] (α 43) (σ 42 1)) := by
  refine qr_start (d := d + 1) qv_e152 (Nat.le_of_ble_eq_true rfl) ?_
  show qr_W (qe L xs vb) (d + 1) qx_e152 _ (0, [(0, .ref 42), (1, .int (qz 3)), (2, .int (qz 3)), (3, .int (qz 2)), (4, .int (qz x4)), (5, .int (qz x5)), (6, .int (qz x6))], [], _, 0, 0)
  have hF0 := qFr_rf [(42, 1)] [43] σ α
  have hz42_1 : (-2147483648) ≤ σ 42 1 ∧ σ 42 1 ≤ 2147483647 := hI.1 42 1
  refine qr_iload_n 1 rfl rfl rfl ?_
  refine qr_istore _ 3 rfl (by decide) rfl rfl ?_
  refine qr_iconst 4 rfl rfl ?_
  refine qr_istore _ 6 rfl (by decide) rfl rfl ?_
  refine qr_iload 8 rfl rfl rfl ?_
  refine qr_getst 11 rfl rfl ?_
  refine qr_alen 12 rfl rfl (by first | exact Or.inl (by decide) | exact Or.inr (Or.inl rfl) | exact Or.inr (Or.inr (Or.inl rfl)) | exact Or.inr (Or.inr (Or.inr (Or.inl rfl)))) rfl ?_
  refine qy_v 7 rfl ?_
  refine qr_icmp_ge 89 15 rfl rfl rfl (by decide) (by decide) (fun h => False.elim (by omega)) (fun h1 => ?_)
  refine qr_iload 17 rfl rfl rfl ?_
  refine qr_if_lt 89 20 rfl rfl rfl (by decide) (fun h => False.elim (by omega)) (fun h2 => ?_)
  refine qr_iload 22 rfl rfl rfl ?_
  refine qr_getst 25 rfl rfl ?_
  refine qr_alen 26 rfl rfl (by first | exact Or.inl (by decide) | exact Or.inr (Or.inl rfl) | exact Or.inr (Or.inr (Or.inl rfl)) | exact Or.inr (Or.inr (Or.inr (Or.inl rfl)))) rfl ?_
  refine qy_v 7 rfl ?_
  refine qr_icmp_ge 89 29 rfl rfl rfl (by decide) (by decide) (fun h => False.elim (by omega)) (fun h3 => ?_)
  refine qr_getst 32 rfl rfl ?_
  refine qr_iload 34 rfl rfl rfl ?_
  refine qr_iconst 35 rfl rfl ?_
  refine qr_imul 36 rfl rfl ?_
  refine qy_v 12 rfl ?_
  refine qr_iload_n 37 rfl rfl rfl ?_
  refine qr_iadd 38 rfl rfl ?_
  refine qy_v 14 rfl ?_
  refine qr_iaload 39 rfl rfl (by decide) (by decide) rfl ?_
  refine qy_v 0 (by decide) ?_
  refine qr_istore _ 41 rfl (by decide) rfl rfl ?_
  refine qr_iload 43 rfl rfl rfl ?_
  refine qr_if_eq 75 46 rfl rfl rfl (by decide) (fun h4 => ?_) (fun h => False.elim (by omega))
  refine qr_getst 78 rfl rfl ?_
  refine qr_iload 80 rfl rfl rfl ?_
  refine qr_iaload 81 rfl rfl (by decide) (by decide) rfl ?_
  refine qy_v 0 (by decide) ?_
  refine qr_istore _ 83 rfl (by decide) rfl rfl ?_
  refine qr_iinc _ 86 rfl rfl (by decide) rfl rfl ?_
  refine qr_goto 6 rfl rfl ?_
  refine qr_iload 8 rfl rfl rfl ?_
  refine qr_getst 11 rfl rfl ?_
  refine qr_alen 12 rfl rfl (by first | exact Or.inl (by decide) | exact Or.inr (Or.inl rfl) | exact Or.inr (Or.inr (Or.inl rfl)) | exact Or.inr (Or.inr (Or.inr (Or.inl rfl)))) rfl ?_
  refine qy_v 7 rfl ?_
  refine qr_icmp_ge 89 15 rfl rfl rfl (by omega) (by decide) (fun h => False.elim (by omega)) (fun h5 => ?_)
  refine qr_iload 17 rfl rfl rfl ?_
  refine qr_if_lt 89 20 rfl rfl rfl (by decide) (fun h => False.elim (by omega)) (fun h6 => ?_)
  refine qr_iload 22 rfl rfl rfl ?_
  refine qr_getst 25 rfl rfl ?_
  refine qr_alen 26 rfl rfl (by first | exact Or.inl (by decide) | exact Or.inr (Or.inl rfl) | exact Or.inr (Or.inr (Or.inl rfl)) | exact Or.inr (Or.inr (Or.inr (Or.inl rfl)))) rfl ?_
  refine qy_v 7 rfl ?_
  refine qr_icmp_ge 89 29 rfl rfl rfl (by decide) (by decide) (fun h => False.elim (by omega)) (fun h7 => ?_)
  refine qr_getst 32 rfl rfl ?_
  refine qr_iload 34 rfl rfl rfl ?_
  refine qr_iconst 35 rfl rfl ?_
  refine qr_imul 36 rfl rfl ?_
  refine qy_v 0 rfl ?_
  refine qr_iload_n 37 rfl rfl rfl ?_
  refine qr_iadd 38 rfl rfl ?_
  refine qy_v 2 rfl ?_
  refine qr_iaload 39 rfl rfl (by decide) (by decide) rfl ?_
  refine qy_v 11 (by decide) ?_
  refine qr_istore _ 41 rfl (by decide) rfl rfl ?_
  refine qr_iload 43 rfl rfl rfl ?_
  refine qr_if_eq 75 46 rfl rfl rfl (by decide) (fun h => False.elim (by omega)) (fun h8 => ?_)
  as_aux_lemma =>
    refine qr_iload 48 rfl rfl rfl ?_
    refine qr_bipush 50 rfl (by decide) rfl ?_
    refine qr_icmp_le 57 53 rfl rfl rfl (qrg r6 (by decide) (by decide)) (by decide) (fun h9 => ?_) (fun h => False.elim (by omega))
    refine qr_aload_n 58 rfl rfl rfl ?_
    refine qr_iload 60 rfl rfl rfl ?_
    refine qr_iload 62 rfl rfl rfl ?_
    refine qr_iload_n 63 rfl rfl rfl ?_
    refine qr_iload 65 rfl rfl rfl ?_
    refine qr_iload 67 rfl rfl rfl ?_
    refine qr_iload 69 rfl rfl rfl ?_
    refine qr_iconst 70 rfl rfl ?_
    refine qr_iadd 71 rfl rfl ?_
    have hs10 : (-2147483648) ≤ σ 42 1 ∧ σ 42 1 ≤ 2147483647 := hI.1 42 1
    refine qr_callN 74 rfl rfl rfl (sf_153_42eb11_0_3 (d := d + 0) hI r4 r5 (by omega) (by omega)) ?_
    rintro _ _ ⟨σ15, α16, rfl, hI17, hG18, hw14, v11, rfl, hv11, hx12, hx13⟩
    have hF19 : qFr [(42, 1)] [43] σ α σ15 α16 := qFr_t hF0 hG18 (by decide) (by decide)
    have hs20 : (-2147483648) ≤ σ15 42 1 ∧ σ15 42 1 ≤ 2147483647 := hI17.1 42 1
    show qr_W (qe L xs vb) (d + 1) qx_e152 _ (74, _, [.int (qz v11)], qw σ15 α16 κ ρ, 0, 0)
    refine qr_retI rfl rfl (by decide) (by decide) ?_
    exact ⟨_, _, rfl, hI17, hF19, (by have hw : σ15 42 1 = (σ15 42 1) := rfl; omega), v11, rfl, hv11, hx12, hx13⟩

set_option maxHeartbeats 4000000 in
set_option maxRecDepth 20000 in
/-- OneRoof$Acts.run -/
theorem sf_151_42er3_2 {L : Nat} {xs : Nat → Int} {vb : Bool} {d : Nat} {σ α : Nat → Nat → Int} {κ : Nat → Option Nat} {ρ : Nat} {x3 : Int} {x4 : Int} {x5 : Int} (hI : qI σ α κ ρ) (r3 : (-2147483648) ≤ x3 ∧ x3 ≤ 2147483647) (r4 : (-2147483648) ≤ x4 ∧ x4 ≤ 2147483647) (r5 : 0 ≤ x5 ∧ x5 ≤ 39) (p0 : 0 ≤ σ 42 1 ∧ σ 42 1 ≤ 23) : qm_T (qe L xs vb) (d + 3) 151 [.ref 42, .int (qz 3), .int (qz 2), .int (qz x3), .int (qz x4), .int (qz x5)] (qw σ α κ ρ) (fun r w' => ∃ σ' α', w' = qw σ' α' κ ρ ∧ qI σ' α' κ ρ ∧ qFr [(42, 1)] [43] σ α σ' α' ∧ σ' 42 1 = σ 42 1 + 1 ∧ ∃ v : Int, r = some (.int (qz v)) ∧ ((-2147483648) ≤ v ∧ v ≤ 2147483647) ∧ v = qac_x x3 x4 ∧ α' 43 = qac_t [11] (α 43) (σ 42 1)) := by
  refine qr_start (d := d + 2) qv_e151 (Nat.le_of_ble_eq_true rfl) ?_
  show qr_W (qe L xs vb) (d + 2) qx_e151 _ (0, [(0, .ref 42), (1, .int (qz 3)), (2, .int (qz 2)), (3, .int (qz x3)), (4, .int (qz x4)), (5, .int (qz x5))], [], _, 0, 0)
  have hF0 := qFr_rf [(42, 1)] [43] σ α
  have hz42_1 : (-2147483648) ≤ σ 42 1 ∧ σ 42 1 ≤ 2147483647 := hI.1 42 1
  refine qr_aload_n 1 rfl rfl rfl ?_
  refine qr_iload_n 2 rfl rfl rfl ?_
  refine qr_iload_n 3 rfl rfl rfl ?_
  refine qr_iload_n 4 rfl rfl rfl ?_
  refine qr_iload_n 5 rfl rfl rfl ?_
  refine qr_iload 7 rfl rfl rfl ?_
  refine qr_iload 9 rfl rfl rfl ?_
  have hs1 : (-2147483648) ≤ σ 42 1 ∧ σ 42 1 ≤ 2147483647 := hI.1 42 1
  refine qr_callN 12 rfl rfl rfl (sf_152_42ef3_3_2 (d := d + 0) hI r3 r4 r5 (by omega)) ?_
  rintro _ _ ⟨σ6, α7, rfl, hI8, hG9, hw5, v2, rfl, hv2, hx3, hx4⟩
  have hF10 : qFr [(42, 1)] [43] σ α σ6 α7 := qFr_t hF0 hG9 (by decide) (by decide)
  have hs11 : (-2147483648) ≤ σ6 42 1 ∧ σ6 42 1 ≤ 2147483647 := hI8.1 42 1
  show qr_W (qe L xs vb) (d + 2) qx_e151 _ (12, _, [.int (qz v2)], qw σ6 α7 κ ρ, 0, 0)
  refine qr_retI rfl rfl (by decide) (by decide) ?_
  exact ⟨_, _, rfl, hI8, hF10, (by have hw : σ6 42 1 = (σ6 42 1) := rfl; omega), v2, rfl, hv2, hx3, hx4⟩

set_option maxHeartbeats 4000000 in
set_option maxRecDepth 20000 in
/-- OneRoof$Acts.start -/
theorem sf_150_42es3_2 {L : Nat} {xs : Nat → Int} {vb : Bool} {d : Nat} {σ α : Nat → Nat → Int} {κ : Nat → Option Nat} {ρ : Nat} {x3 : Int} {x4 : Int} (hI : qI σ α κ ρ) (r3 : (-2147483648) ≤ x3 ∧ x3 ≤ 2147483647) (r4 : (-2147483648) ≤ x4 ∧ x4 ≤ 2147483647) (p0 : 0 ≤ σ 42 1 ∧ σ 42 1 ≤ 23) : qm_T (qe L xs vb) (d + 4) 150 [.ref 42, .int (qz 3), .int (qz 2), .int (qz x3), .int (qz x4)] (qw σ α κ ρ) (fun r w' => ∃ σ' α', w' = qw σ' α' κ ρ ∧ qI σ' α' κ ρ ∧ qFr [(42, 1)] [43] σ α σ' α' ∧ σ' 42 1 = σ 42 1 + 1 ∧ ∃ v : Int, r = some (.int (qz v)) ∧ ((-2147483648) ≤ v ∧ v ≤ 2147483647) ∧ v = qac_x x3 x4 ∧ α' 43 = qac_t [11] (α 43) (σ 42 1)) := by
  refine qr_start (d := d + 3) qv_e150 (Nat.le_of_ble_eq_true rfl) ?_
  show qr_W (qe L xs vb) (d + 3) qx_e150 _ (0, [(0, .ref 42), (1, .int (qz 3)), (2, .int (qz 2)), (3, .int (qz x3)), (4, .int (qz x4))], [], _, 0, 0)
  have hF0 := qFr_rf [(42, 1)] [43] σ α
  have hz42_1 : (-2147483648) ≤ σ 42 1 ∧ σ 42 1 ≤ 2147483647 := hI.1 42 1
  refine qr_aload_n 1 rfl rfl rfl ?_
  refine qr_iload_n 2 rfl rfl rfl ?_
  refine qr_iload_n 3 rfl rfl rfl ?_
  refine qr_iload_n 4 rfl rfl rfl ?_
  refine qr_iload 6 rfl rfl rfl ?_
  refine qr_iconst 7 rfl rfl ?_
  have hs1 : (-2147483648) ≤ σ 42 1 ∧ σ 42 1 ≤ 2147483647 := hI.1 42 1
  refine qr_callN 10 rfl rfl rfl (sf_151_42er3_2 (d := d + 0) hI r3 r4 (by decide) (by omega)) ?_
  rintro _ _ ⟨σ6, α7, rfl, hI8, hG9, hw5, v2, rfl, hv2, hx3, hx4⟩
  have hF10 : qFr [(42, 1)] [43] σ α σ6 α7 := qFr_t hF0 hG9 (by decide) (by decide)
  have hs11 : (-2147483648) ≤ σ6 42 1 ∧ σ6 42 1 ≤ 2147483647 := hI8.1 42 1
  show qr_W (qe L xs vb) (d + 3) qx_e150 _ (10, _, [.int (qz v2)], qw σ6 α7 κ ρ, 0, 0)
  refine qr_retI rfl rfl (by decide) (by decide) ?_
  exact ⟨_, _, rfl, hI8, hF10, (by have hw : σ6 42 1 = (σ6 42 1) := rfl; omega), v2, rfl, hv2, hx3, hx4⟩

set_option maxHeartbeats 4000000 in
set_option maxRecDepth 20000 in
/-- OneRoof$Acts.begin -/
theorem sf_153_42eb2_0_3 {L : Nat} {xs : Nat → Int} {vb : Bool} {d : Nat} {σ α : Nat → Nat → Int} {κ : Nat → Option Nat} {ρ : Nat} {x4 : Int} {x5 : Int} {x6 : Int} (hI : qI σ α κ ρ) (r4 : (-2147483648) ≤ x4 ∧ x4 ≤ 2147483647) (r5 : (-2147483648) ≤ x5 ∧ x5 ≤ 2147483647) (r6 : 0 ≤ x6 ∧ x6 ≤ 37) (p0 : 0 ≤ σ 42 1 ∧ σ 42 1 ≤ 19) : qm_T (qe L xs vb) (d + 9) 153 [.ref 42, .int (qz 2), .int (qz 0), .int (qz 3), .int (qz x4), .int (qz x5), .int (qz x6)] (qw σ α κ ρ) (fun r w' => ∃ σ' α', w' = qw σ' α' κ ρ ∧ qI σ' α' κ ρ ∧ qFr [(42, 1)] [43] σ α σ' α' ∧ σ' 42 1 = σ 42 1 + 5 ∧ ∃ v : Int, r = some (.int (qz v)) ∧ ((-2147483648) ≤ v ∧ v ≤ 2147483647) ∧ v = qac_s (qac_n (qac_m (qac_a x4 x5) 2)) (qac_x 1 x5) ∧ α' 43 = qac_t [2, 40, 10, 1, 11] (α 43) (σ 42 1)) := by
  refine qr_start (d := d + 8) qv_e153 (Nat.le_of_ble_eq_true rfl) ?_
  show qr_W (qe L xs vb) (d + 8) qx_e153 _ (0, [(0, .ref 42), (1, .int (qz 2)), (2, .int (qz 0)), (3, .int (qz 3)), (4, .int (qz x4)), (5, .int (qz x5)), (6, .int (qz x6))], [], _, 0, 0)
  have hF0 := qFr_rf [(42, 1)] [43] σ α
  have hz42_1 : (-2147483648) ≤ σ 42 1 ∧ σ 42 1 ≤ 2147483647 := hI.1 42 1
  refine qr_aload_n 1 rfl rfl rfl ?_
  refine qr_get 4 rfl rfl rfl (by decide) rfl ?_
  refine qr_aload_n 5 rfl rfl rfl ?_
  refine qr_get 8 rfl rfl rfl (by decide) rfl ?_
  refine qr_alen 9 rfl rfl (by first | exact Or.inl (by decide) | exact Or.inr (Or.inl rfl) | exact Or.inr (Or.inr (Or.inl rfl)) | exact Or.inr (Or.inr (Or.inr (Or.inl rfl)))) rfl ?_
  refine qy_v 24 rfl ?_
  refine qr_icmp_ge 22 12 rfl rfl rfl hz42_1 (by decide) (fun h => False.elim (by omega)) (fun h1 => ?_)
  refine qr_aload_n 13 rfl rfl rfl ?_
  refine qr_get 16 rfl rfl rfl (by decide) rfl ?_
  refine qr_aload_n 17 rfl rfl rfl ?_
  refine qr_get 20 rfl rfl rfl (by decide) rfl ?_
  refine qr_iload_n 21 rfl rfl rfl ?_
  refine qr_iastore 22 rfl (by decide) rfl (by omega) (by decide) rfl ?_
  refine qy_wA (qw_r α 43 (qzu (α 43) ((σ 42 1) : Int).toNat 2)) rfl (fun α2 e3 => ?_)
  have hI4 : qI σ α2 κ ρ := by rw [e3]; exact qI_r hI 43 _ rfl (show (-2147483648) ≤ 2 ∧ 2 ≤ 2147483647 by omega)
  have hF5 : qFr [(42, 1)] [43] σ α σ α2 := by rw [e3]; exact qFr_r hF0 43 _ (by decide)
  refine qr_aload_n 23 rfl rfl rfl ?_
  refine qr_dup 24 rfl rfl rfl ?_
  refine qr_get 27 rfl rfl rfl (by decide) rfl ?_
  refine qr_iconst 28 rfl rfl ?_
  refine qr_iadd 29 rfl rfl ?_
  refine qr_put 32 rfl (by decide) rfl (Nat.le_of_ble_eq_true rfl) (Nat.le_of_ble_eq_true rfl) (Or.inl rfl) (qr_fitI rfl _) rfl ?_
  refine qy_wS (qw_s σ 42 1 ((σ 42 1) + 1)) rfl (fun σ6 e7 => ?_)
  have hI8 : qI σ6 α2 κ ρ := by rw [e7]; exact qI_s hI4 42 1 rfl (show (-2147483648) ≤ ((σ 42 1) + 1) ∧ ((σ 42 1) + 1) ≤ 2147483647 by omega)
  have hF9 : qFr [(42, 1)] [43] σ α σ6 α2 := by rw [e7]; exact qFr_s hF5 42 1 _ (by decide)
  refine qr_getst 35 rfl rfl ?_
  refine qr_iload_n 36 rfl rfl rfl ?_
  refine qr_iaload 37 rfl rfl (by decide) (by decide) rfl ?_
  refine qy_v (-1) (by decide) ?_
  refine qr_istore _ 39 rfl (by decide) rfl rfl ?_
  refine qr_iload_n 40 rfl rfl rfl ?_
  refine qr_look (off := 114) 154 rfl (by omega) (by decide) (by decide) rfl ?_
  refine qr_aload_n 155 rfl rfl rfl ?_
  refine qr_iload_n 156 rfl rfl rfl ?_
  refine qr_iconst 157 rfl rfl ?_
  refine qr_iload 159 rfl rfl rfl ?_
  refine qr_iload 161 rfl rfl rfl ?_
  refine qr_iload 163 rfl rfl rfl ?_
  have hr10 : σ6 42 1 = ((σ 42 1) + 1) := (congrFun (congrFun e7 42) 1).trans rfl
  have hs11 : (-2147483648) ≤ σ6 42 1 ∧ σ6 42 1 ≤ 2147483647 := hI8.1 42 1
  have hs12 : σ6 42 1 = ((σ 42 1) + 1) := (congrFun (congrFun e7 42) 1).trans rfl
  refine qr_callN 166 rfl rfl rfl (sf_151_42er3_1 (d := d + 0) hI8 r4 r5 r6 (by omega)) ?_
  rintro _ _ ⟨σ17, α18, rfl, hI19, hG20, hw16, v13, rfl, hv13, hx14, hx15⟩
  have hF21 : qFr [(42, 1)] [43] σ α σ17 α18 := qFr_t hF9 hG20 (by decide) (by decide)
  have hs22 : (-2147483648) ≤ σ17 42 1 ∧ σ17 42 1 ≤ 2147483647 := hI19.1 42 1
  show qr_W (qe L xs vb) (d + 8) qx_e153 _ (166, _, [.int (qz v13)], qw σ17 α18 κ ρ, 0, 0)
  refine qr_aload_n 167 rfl rfl rfl ?_
  refine qr_iload_n 168 rfl rfl rfl ?_
  refine qr_iconst 169 rfl rfl ?_
  refine qr_iconst 170 rfl rfl ?_
  refine qr_iload 172 rfl rfl rfl ?_
  refine qr_iload 174 rfl rfl rfl ?_
  have hr23 : σ17 42 1 = (σ17 42 1) := rfl
  have hs24 : (-2147483648) ≤ σ17 42 1 ∧ σ17 42 1 ≤ 2147483647 := hI19.1 42 1
  refine qr_callN 177 rfl rfl rfl (sf_151_42er3_2 (d := d + 5) hI19 (by decide) r5 (qrg r6 (by decide) (by decide)) (by omega)) ?_
  rintro _ _ ⟨σ29, α30, rfl, hI31, hG32, hw28, v25, rfl, hv25, hx26, hx27⟩
  have hF33 : qFr [(42, 1)] [43] σ α σ29 α30 := qFr_t hF21 hG32 (by decide) (by decide)
  have hs34 : (-2147483648) ≤ σ29 42 1 ∧ σ29 42 1 ≤ 2147483647 := hI31.1 42 1
  show qr_W (qe L xs vb) (d + 8) qx_e153 _ (177, _, [.int (qz v25), .int (qz v13)], qw σ29 α30 κ ρ, 0, 0)
  refine qr_isub 178 rfl rfl ?_
  refine qy_canE (fun v35 hv35 hev35 => ?_)
  refine qr_retI rfl rfl (by decide) (by decide) ?_
  exact ⟨_, _, rfl, hI31, hF33, (by have hw : σ29 42 1 = (σ29 42 1) := rfl; omega), v35, rfl, hv35, ((qac_v hev35 (by omega)).trans (by rw [hx14, hx26]; rfl)), (by rw [hx27, hx15, show α2 43 = qzu (α 43) (σ 42 1 : Int).toNat 2 from ((congrFun e3 43).trans (qw_r_eq.trans (congrArg (fun f => qzu f ((σ 42 1) : Int).toNat 2) rfl))), show σ6 42 1 = σ 42 1 + 1 by omega, show σ17 42 1 = σ 42 1 + 1 + 3 by omega]; exact (qac_t_app [40, 10, 1] [11] (qzu (α 43) (σ 42 1 : Int).toNat 2) (σ 42 1 + 1)).symm)⟩

set_option maxHeartbeats 4000000 in
set_option maxRecDepth 20000 in
/-- OneRoof$Acts.runFrom -/
theorem sf_152_42ef3_3_3 {L : Nat} {xs : Nat → Int} {vb : Bool} {d : Nat} {σ α : Nat → Nat → Int} {κ : Nat → Option Nat} {ρ : Nat} {x4 : Int} {x5 : Int} {x6 : Int} (hI : qI σ α κ ρ) (r4 : (-2147483648) ≤ x4 ∧ x4 ≤ 2147483647) (r5 : (-2147483648) ≤ x5 ∧ x5 ≤ 2147483647) (r6 : 0 ≤ x6 ∧ x6 ≤ 36) (p0 : 0 ≤ σ 42 1 ∧ σ 42 1 ≤ 19) : qm_T (qe L xs vb) (d + 10) 152 [.ref 42, .int (qz 3), .int (qz 3), .int (qz 3), .int (qz x4), .int (qz x5), .int (qz x6)] (qw σ α κ ρ) (fun r w' => ∃ σ' α', w' = qw σ' α' κ ρ ∧ qI σ' α' κ ρ ∧ qFr [(42, 1)] [43] σ α σ' α' ∧ σ' 42 1 = σ 42 1 + 5 ∧ ∃ v : Int, r = some (.int (qz v)) ∧ ((-2147483648) ≤ v ∧ v ≤ 2147483647) ∧ v = qac_s (qac_n (qac_m (qac_a x4 x5) 2)) (qac_x 1 x5) ∧ α' 43 = qac_t [2, 40, 10, 1, 11] (α 43) (σ 42 1)) := by
  refine qr_start (d := d + 9) qv_e152 (Nat.le_of_ble_eq_true rfl) ?_
  show qr_W (qe L xs vb) (d + 9) qx_e152 _ (0, [(0, .ref 42), (1, .int (qz 3)), (2, .int (qz 3)), (3, .int (qz 3)), (4, .int (qz x4)), (5, .int (qz x5)), (6, .int (qz x6))], [], _, 0, 0)
  have hF0 := qFr_rf [(42, 1)] [43] σ α
  have hz42_1 : (-2147483648) ≤ σ 42 1 ∧ σ 42 1 ≤ 2147483647 := hI.1 42 1
  refine qr_iload_n 1 rfl rfl rfl ?_
  refine qr_istore _ 3 rfl (by decide) rfl rfl ?_
  refine qr_iconst 4 rfl rfl ?_
  refine qr_istore _ 6 rfl (by decide) rfl rfl ?_
  refine qr_iload 8 rfl rfl rfl ?_
  refine qr_getst 11 rfl rfl ?_
  refine qr_alen 12 rfl rfl (by first | exact Or.inl (by decide) | exact Or.inr (Or.inl rfl) | exact Or.inr (Or.inr (Or.inl rfl)) | exact Or.inr (Or.inr (Or.inr (Or.inl rfl)))) rfl ?_
  refine qy_v 7 rfl ?_
  refine qr_icmp_ge 89 15 rfl rfl rfl (by decide) (by decide) (fun h => False.elim (by omega)) (fun h1 => ?_)
  refine qr_iload 17 rfl rfl rfl ?_
  refine qr_if_lt 89 20 rfl rfl rfl (by decide) (fun h => False.elim (by omega)) (fun h2 => ?_)
  refine qr_iload 22 rfl rfl rfl ?_
  refine qr_getst 25 rfl rfl ?_
  refine qr_alen 26 rfl rfl (by first | exact Or.inl (by decide) | exact Or.inr (Or.inl rfl) | exact Or.inr (Or.inr (Or.inl rfl)) | exact Or.inr (Or.inr (Or.inr (Or.inl rfl)))) rfl ?_
  refine qy_v 7 rfl ?_
  refine qr_icmp_ge 89 29 rfl rfl rfl (by decide) (by decide) (fun h => False.elim (by omega)) (fun h3 => ?_)
  refine qr_getst 32 rfl rfl ?_
  refine qr_iload 34 rfl rfl rfl ?_
  refine qr_iconst 35 rfl rfl ?_
  refine qr_imul 36 rfl rfl ?_
  refine qy_v 12 rfl ?_
  refine qr_iload_n 37 rfl rfl rfl ?_
  refine qr_iadd 38 rfl rfl ?_
  refine qy_v 15 rfl ?_
  refine qr_iaload 39 rfl rfl (by decide) (by decide) rfl ?_
  refine qy_v 0 (by decide) ?_
  refine qr_istore _ 41 rfl (by decide) rfl rfl ?_
  refine qr_iload 43 rfl rfl rfl ?_
  refine qr_if_eq 75 46 rfl rfl rfl (by decide) (fun h4 => ?_) (fun h => False.elim (by omega))
  refine qr_getst 78 rfl rfl ?_
  refine qr_iload 80 rfl rfl rfl ?_
  refine qr_iaload 81 rfl rfl (by decide) (by decide) rfl ?_
  refine qy_v 0 (by decide) ?_
  refine qr_istore _ 83 rfl (by decide) rfl rfl ?_
  refine qr_iinc _ 86 rfl rfl (by decide) rfl rfl ?_
  refine qr_goto 6 rfl rfl ?_
  refine qr_iload 8 rfl rfl rfl ?_
  refine qr_getst 11 rfl rfl ?_
  refine qr_alen 12 rfl rfl (by first | exact Or.inl (by decide) | exact Or.inr (Or.inl rfl) | exact Or.inr (Or.inr (Or.inl rfl)) | exact Or.inr (Or.inr (Or.inr (Or.inl rfl)))) rfl ?_
  refine qy_v 7 rfl ?_
  refine qr_icmp_ge 89 15 rfl rfl rfl (by omega) (by decide) (fun h => False.elim (by omega)) (fun h5 => ?_)
  refine qr_iload 17 rfl rfl rfl ?_
  refine qr_if_lt 89 20 rfl rfl rfl (by decide) (fun h => False.elim (by omega)) (fun h6 => ?_)
  refine qr_iload 22 rfl rfl rfl ?_
  refine qr_getst 25 rfl rfl ?_
  refine qr_alen 26 rfl rfl (by first | exact Or.inl (by decide) | exact Or.inr (Or.inl rfl) | exact Or.inr (Or.inr (Or.inl rfl)) | exact Or.inr (Or.inr (Or.inr (Or.inl rfl)))) rfl ?_
  refine qy_v 7 rfl ?_
  refine qr_icmp_ge 89 29 rfl rfl rfl (by decide) (by decide) (fun h => False.elim (by omega)) (fun h7 => ?_)
  refine qr_getst 32 rfl rfl ?_
  refine qr_iload 34 rfl rfl rfl ?_
  refine qr_iconst 35 rfl rfl ?_
  refine qr_imul 36 rfl rfl ?_
  refine qy_v 0 rfl ?_
  refine qr_iload_n 37 rfl rfl rfl ?_
  refine qr_iadd 38 rfl rfl ?_
  refine qy_v 3 rfl ?_
  refine qr_iaload 39 rfl rfl (by decide) (by decide) rfl ?_
  refine qy_v 2 (by decide) ?_
  refine qr_istore _ 41 rfl (by decide) rfl rfl ?_
  refine qr_iload 43 rfl rfl rfl ?_
  refine qr_if_eq 75 46 rfl rfl rfl (by decide) (fun h => False.elim (by omega)) (fun h8 => ?_)
  as_aux_lemma =>
    refine qr_iload 48 rfl rfl rfl ?_
    refine qr_bipush 50 rfl (by decide) rfl ?_
    refine qr_icmp_le 57 53 rfl rfl rfl (qrg r6 (by decide) (by decide)) (by decide) (fun h9 => ?_) (fun h => False.elim (by omega))
    refine qr_aload_n 58 rfl rfl rfl ?_
    refine qr_iload 60 rfl rfl rfl ?_
    refine qr_iload 62 rfl rfl rfl ?_
    refine qr_iload_n 63 rfl rfl rfl ?_
    refine qr_iload 65 rfl rfl rfl ?_
    refine qr_iload 67 rfl rfl rfl ?_
    refine qr_iload 69 rfl rfl rfl ?_
    refine qr_iconst 70 rfl rfl ?_
    refine qr_iadd 71 rfl rfl ?_
    have hs10 : (-2147483648) ≤ σ 42 1 ∧ σ 42 1 ≤ 2147483647 := hI.1 42 1
    refine qr_callN 74 rfl rfl rfl (sf_153_42eb2_0_3 (d := d + 0) hI r4 r5 (by omega) (by omega)) ?_
    rintro _ _ ⟨σ15, α16, rfl, hI17, hG18, hw14, v11, rfl, hv11, hx12, hx13⟩
    have hF19 : qFr [(42, 1)] [43] σ α σ15 α16 := qFr_t hF0 hG18 (by decide) (by decide)
    have hs20 : (-2147483648) ≤ σ15 42 1 ∧ σ15 42 1 ≤ 2147483647 := hI17.1 42 1
    show qr_W (qe L xs vb) (d + 9) qx_e152 _ (74, _, [.int (qz v11)], qw σ15 α16 κ ρ, 0, 0)
    refine qr_retI rfl rfl (by decide) (by decide) ?_
    exact ⟨_, _, rfl, hI17, hF19, (by have hw : σ15 42 1 = (σ15 42 1) := rfl; omega), v11, rfl, hv11, hx12, hx13⟩

set_option maxHeartbeats 4000000 in
set_option maxRecDepth 20000 in
/-- OneRoof$Acts.run -/
theorem sf_151_42er3_3 {L : Nat} {xs : Nat → Int} {vb : Bool} {d : Nat} {σ α : Nat → Nat → Int} {κ : Nat → Option Nat} {ρ : Nat} {x3 : Int} {x4 : Int} {x5 : Int} (hI : qI σ α κ ρ) (r3 : (-2147483648) ≤ x3 ∧ x3 ≤ 2147483647) (r4 : (-2147483648) ≤ x4 ∧ x4 ≤ 2147483647) (r5 : 0 ≤ x5 ∧ x5 ≤ 36) (p0 : 0 ≤ σ 42 1 ∧ σ 42 1 ≤ 19) : qm_T (qe L xs vb) (d + 11) 151 [.ref 42, .int (qz 3), .int (qz 3), .int (qz x3), .int (qz x4), .int (qz x5)] (qw σ α κ ρ) (fun r w' => ∃ σ' α', w' = qw σ' α' κ ρ ∧ qI σ' α' κ ρ ∧ qFr [(42, 1)] [43] σ α σ' α' ∧ σ' 42 1 = σ 42 1 + 5 ∧ ∃ v : Int, r = some (.int (qz v)) ∧ ((-2147483648) ≤ v ∧ v ≤ 2147483647) ∧ v = qac_s (qac_n (qac_m (qac_a x3 x4) 2)) (qac_x 1 x4) ∧ α' 43 = qac_t [2, 40, 10, 1, 11] (α 43) (σ 42 1)) := by
  refine qr_start (d := d + 10) qv_e151 (Nat.le_of_ble_eq_true rfl) ?_
  show qr_W (qe L xs vb) (d + 10) qx_e151 _ (0, [(0, .ref 42), (1, .int (qz 3)), (2, .int (qz 3)), (3, .int (qz x3)), (4, .int (qz x4)), (5, .int (qz x5))], [], _, 0, 0)
  have hF0 := qFr_rf [(42, 1)] [43] σ α
  have hz42_1 : (-2147483648) ≤ σ 42 1 ∧ σ 42 1 ≤ 2147483647 := hI.1 42 1
  refine qr_aload_n 1 rfl rfl rfl ?_
  refine qr_iload_n 2 rfl rfl rfl ?_
  refine qr_iload_n 3 rfl rfl rfl ?_
  refine qr_iload_n 4 rfl rfl rfl ?_
  refine qr_iload_n 5 rfl rfl rfl ?_
  refine qr_iload 7 rfl rfl rfl ?_
  refine qr_iload 9 rfl rfl rfl ?_
  have hs1 : (-2147483648) ≤ σ 42 1 ∧ σ 42 1 ≤ 2147483647 := hI.1 42 1
  refine qr_callN 12 rfl rfl rfl (sf_152_42ef3_3_3 (d := d + 0) hI r3 r4 r5 (by omega)) ?_
  rintro _ _ ⟨σ6, α7, rfl, hI8, hG9, hw5, v2, rfl, hv2, hx3, hx4⟩
  have hF10 : qFr [(42, 1)] [43] σ α σ6 α7 := qFr_t hF0 hG9 (by decide) (by decide)
  have hs11 : (-2147483648) ≤ σ6 42 1 ∧ σ6 42 1 ≤ 2147483647 := hI8.1 42 1
  show qr_W (qe L xs vb) (d + 10) qx_e151 _ (12, _, [.int (qz v2)], qw σ6 α7 κ ρ, 0, 0)
  refine qr_retI rfl rfl (by decide) (by decide) ?_
  exact ⟨_, _, rfl, hI8, hF10, (by have hw : σ6 42 1 = (σ6 42 1) := rfl; omega), v2, rfl, hv2, hx3, hx4⟩

set_option maxHeartbeats 4000000 in
set_option maxRecDepth 20000 in
/-- OneRoof$Acts.start -/
theorem sf_150_42es3_3 {L : Nat} {xs : Nat → Int} {vb : Bool} {d : Nat} {σ α : Nat → Nat → Int} {κ : Nat → Option Nat} {ρ : Nat} {x3 : Int} {x4 : Int} (hI : qI σ α κ ρ) (r3 : (-2147483648) ≤ x3 ∧ x3 ≤ 2147483647) (r4 : (-2147483648) ≤ x4 ∧ x4 ≤ 2147483647) (p0 : 0 ≤ σ 42 1 ∧ σ 42 1 ≤ 19) : qm_T (qe L xs vb) (d + 12) 150 [.ref 42, .int (qz 3), .int (qz 3), .int (qz x3), .int (qz x4)] (qw σ α κ ρ) (fun r w' => ∃ σ' α', w' = qw σ' α' κ ρ ∧ qI σ' α' κ ρ ∧ qFr [(42, 1)] [43] σ α σ' α' ∧ σ' 42 1 = σ 42 1 + 5 ∧ ∃ v : Int, r = some (.int (qz v)) ∧ ((-2147483648) ≤ v ∧ v ≤ 2147483647) ∧ v = qac_s (qac_n (qac_m (qac_a x3 x4) 2)) (qac_x 1 x4) ∧ α' 43 = qac_t [2, 40, 10, 1, 11] (α 43) (σ 42 1)) := by
  refine qr_start (d := d + 11) qv_e150 (Nat.le_of_ble_eq_true rfl) ?_
  show qr_W (qe L xs vb) (d + 11) qx_e150 _ (0, [(0, .ref 42), (1, .int (qz 3)), (2, .int (qz 3)), (3, .int (qz x3)), (4, .int (qz x4))], [], _, 0, 0)
  have hF0 := qFr_rf [(42, 1)] [43] σ α
  have hz42_1 : (-2147483648) ≤ σ 42 1 ∧ σ 42 1 ≤ 2147483647 := hI.1 42 1
  refine qr_aload_n 1 rfl rfl rfl ?_
  refine qr_iload_n 2 rfl rfl rfl ?_
  refine qr_iload_n 3 rfl rfl rfl ?_
  refine qr_iload_n 4 rfl rfl rfl ?_
  refine qr_iload 6 rfl rfl rfl ?_
  refine qr_iconst 7 rfl rfl ?_
  have hs1 : (-2147483648) ≤ σ 42 1 ∧ σ 42 1 ≤ 2147483647 := hI.1 42 1
  refine qr_callN 10 rfl rfl rfl (sf_151_42er3_3 (d := d + 0) hI r3 r4 (by decide) (by omega)) ?_
  rintro _ _ ⟨σ6, α7, rfl, hI8, hG9, hw5, v2, rfl, hv2, hx3, hx4⟩
  have hF10 : qFr [(42, 1)] [43] σ α σ6 α7 := qFr_t hF0 hG9 (by decide) (by decide)
  have hs11 : (-2147483648) ≤ σ6 42 1 ∧ σ6 42 1 ≤ 2147483647 := hI8.1 42 1
  show qr_W (qe L xs vb) (d + 11) qx_e150 _ (10, _, [.int (qz v2)], qw σ6 α7 κ ρ, 0, 0)
  refine qr_retI rfl rfl (by decide) (by decide) ?_
  exact ⟨_, _, rfl, hI8, hF10, (by have hw : σ6 42 1 = (σ6 42 1) := rfl; omega), v2, rfl, hv2, hx3, hx4⟩

set_option maxHeartbeats 4000000 in
set_option maxRecDepth 20000 in
/-- OneRoof$Acts.begin -/
theorem sf_153_42eb1_0_4 {L : Nat} {xs : Nat → Int} {vb : Bool} {d : Nat} {σ α : Nat → Nat → Int} {κ : Nat → Option Nat} {ρ : Nat} {x4 : Int} {x5 : Int} {x6 : Int} (hI : qI σ α κ ρ) (r4 : (-2147483648) ≤ x4 ∧ x4 ≤ 2147483647) (r5 : (-2147483648) ≤ x5 ∧ x5 ≤ 2147483647) (r6 : 0 ≤ x6 ∧ x6 ≤ 40) (p0 : 0 ≤ σ 42 1 ∧ σ 42 1 ≤ 23) : qm_T (qe L xs vb) (d + 1) 153 [.ref 42, .int (qz 1), .int (qz 0), .int (qz 4), .int (qz x4), .int (qz x5), .int (qz x6)] (qw σ α κ ρ) (fun r w' => ∃ σ' α', w' = qw σ' α' κ ρ ∧ qI σ' α' κ ρ ∧ qFr [(42, 1)] [43] σ α σ' α' ∧ σ' 42 1 = σ 42 1 + 1 ∧ ∃ v : Int, r = some (.int (qz v)) ∧ ((-2147483648) ≤ v ∧ v ≤ 2147483647) ∧ v = qac_a x4 x5 ∧ α' 43 = qac_t [1] (α 43) (σ 42 1)) := by
  refine qr_start (d := d + 0) qv_e153 (Nat.le_of_ble_eq_true rfl) ?_
  show qr_W (qe L xs vb) (d + 0) qx_e153 _ (0, [(0, .ref 42), (1, .int (qz 1)), (2, .int (qz 0)), (3, .int (qz 4)), (4, .int (qz x4)), (5, .int (qz x5)), (6, .int (qz x6))], [], _, 0, 0)
  have hF0 := qFr_rf [(42, 1)] [43] σ α
  have hz42_1 : (-2147483648) ≤ σ 42 1 ∧ σ 42 1 ≤ 2147483647 := hI.1 42 1
  refine qr_aload_n 1 rfl rfl rfl ?_
  refine qr_get 4 rfl rfl rfl (by decide) rfl ?_
  refine qr_aload_n 5 rfl rfl rfl ?_
  refine qr_get 8 rfl rfl rfl (by decide) rfl ?_
  refine qr_alen 9 rfl rfl (by first | exact Or.inl (by decide) | exact Or.inr (Or.inl rfl) | exact Or.inr (Or.inr (Or.inl rfl)) | exact Or.inr (Or.inr (Or.inr (Or.inl rfl)))) rfl ?_
  refine qy_v 24 rfl ?_
  refine qr_icmp_ge 22 12 rfl rfl rfl hz42_1 (by decide) (fun h => False.elim (by omega)) (fun h1 => ?_)
  refine qr_aload_n 13 rfl rfl rfl ?_
  refine qr_get 16 rfl rfl rfl (by decide) rfl ?_
  refine qr_aload_n 17 rfl rfl rfl ?_
  refine qr_get 20 rfl rfl rfl (by decide) rfl ?_
  refine qr_iload_n 21 rfl rfl rfl ?_
  refine qr_iastore 22 rfl (by decide) rfl (by omega) (by decide) rfl ?_
  refine qy_wA (qw_r α 43 (qzu (α 43) ((σ 42 1) : Int).toNat 1)) rfl (fun α2 e3 => ?_)
  have hI4 : qI σ α2 κ ρ := by rw [e3]; exact qI_r hI 43 _ rfl (show (-2147483648) ≤ 1 ∧ 1 ≤ 2147483647 by omega)
  have hF5 : qFr [(42, 1)] [43] σ α σ α2 := by rw [e3]; exact qFr_r hF0 43 _ (by decide)
  refine qr_aload_n 23 rfl rfl rfl ?_
  refine qr_dup 24 rfl rfl rfl ?_
  refine qr_get 27 rfl rfl rfl (by decide) rfl ?_
  refine qr_iconst 28 rfl rfl ?_
  refine qr_iadd 29 rfl rfl ?_
  refine qr_put 32 rfl (by decide) rfl (Nat.le_of_ble_eq_true rfl) (Nat.le_of_ble_eq_true rfl) (Or.inl rfl) (qr_fitI rfl _) rfl ?_
  refine qy_wS (qw_s σ 42 1 ((σ 42 1) + 1)) rfl (fun σ6 e7 => ?_)
  have hI8 : qI σ6 α2 κ ρ := by rw [e7]; exact qI_s hI4 42 1 rfl (show (-2147483648) ≤ ((σ 42 1) + 1) ∧ ((σ 42 1) + 1) ≤ 2147483647 by omega)
  have hF9 : qFr [(42, 1)] [43] σ α σ6 α2 := by rw [e7]; exact qFr_s hF5 42 1 _ (by decide)
  refine qr_getst 35 rfl rfl ?_
  refine qr_iload_n 36 rfl rfl rfl ?_
  refine qr_iaload 37 rfl rfl (by decide) (by decide) rfl ?_
  refine qy_v (-1) (by decide) ?_
  refine qr_istore _ 39 rfl (by decide) rfl rfl ?_
  refine qr_iload_n 40 rfl rfl rfl ?_
  refine qr_look (off := 108) 148 rfl (by omega) (by decide) (by decide) rfl ?_
  refine qr_iload 150 rfl rfl rfl ?_
  refine qr_iload 152 rfl rfl rfl ?_
  refine qr_iadd 153 rfl rfl ?_
  refine qy_canE (fun v10 hv10 hev10 => ?_)
  refine qr_retI rfl rfl (by decide) (by decide) ?_
  exact ⟨_, _, rfl, hI8, hF9, (by have hw : σ6 42 1 = ((σ 42 1) + 1) := (congrFun (congrFun e7 42) 1).trans rfl; omega), v10, rfl, hv10, (qac_v hev10 (by omega)), (((congrFun e3 43).trans (qw_r_eq.trans (congrArg (fun f => qzu f ((σ 42 1) : Int).toNat 1) rfl))))⟩
end
