/-! what is kept till the next opening -/
theorem qy_mulE {X : qm_X} {d : Nat} {x : qs_Ent} {Q : Option Value → qm_W → Prop} {pc : Nat} {ls : qm_L} {st : List Value} {w : qm_W} {c n : Nat} {a b A B C : Int} (ha : 0 ≤ a ∧ a ≤ A) (hb : 0 ≤ b ∧ b ≤ B) (hC : A * B ≤ C) (k : ∀ v : Int, (0 ≤ v ∧ v ≤ C) → v = a * b → qr_W X d x Q (pc, ls, .int (qz v) :: st, w, c, n)) : qr_W X d x Q (pc, ls, .int (qz (a * b)) :: st, w, c, n) := by
  refine k _ ⟨Int.mul_nonneg ha.1 hb.1, Int.le_trans ?_ hC⟩ rfl
  exact Int.mul_le_mul ha.2 hb.2 hb.1 (Int.le_trans ha.1 ha.2)
def qcel (p q : Int) : Int := if p < q then q * (q - 1) / 2 + p else p * (p - 1) / 2 + q
theorem qcel_of {x y lo hi m : Int} (hxy : ¬ x = y) (hl : (lo = x ∨ lo = y) ∧ lo ≤ x ∧ lo ≤ y) (hh : (hi = x ∨ hi = y) ∧ x ≤ hi ∧ y ≤ hi) (hm : m = hi * (hi - 1)) : m / 2 + lo = qcel x y := by
  unfold qcel
  by_cases h : x < y
  · have e1 : hi = y := by omega
    have e2 : lo = x := by omega
    rw [if_pos h, hm, e1, e2]
  · have e1 : hi = x := by omega
    have e2 : lo = y := by omega
    rw [if_neg h, hm, e1, e2]
theorem qcel_sym {x y : Int} (hxy : ¬ x = y) : qcel x y = qcel y x := by
  unfold qcel
  by_cases h : x < y
  · rw [if_pos h, if_neg (by omega)]
  · rw [if_neg h, if_pos (by omega)]
theorem qcel_t : ∀ n : Fin 32, (((n : Nat) : Int) + 1) * (((n : Nat) : Int) + 1 - 1) / 2 = ((n : Nat) : Int) * (((n : Nat) : Int) - 1) / 2 + ((n : Nat) : Int) := by decide
theorem qcel_lt {a b : Int} (ha : 0 ≤ a) (hab : a < b) (hb : b ≤ 31) : a * (a - 1) / 2 + a ≤ b * (b - 1) / 2 := by
  obtain ⟨n, rfl⟩ : ∃ n : Nat, b = a + 1 + n := ⟨(b - a - 1).toNat, by omega⟩
  have key : ∀ n : Nat, a + 1 + (n : Int) ≤ 31 → a * (a - 1) / 2 + a ≤ (a + 1 + (n : Int)) * (a + 1 + (n : Int) - 1) / 2 := by
    intro n
    induction n with
    | zero =>
      intro _
      have h := qcel_t ⟨a.toNat, by omega⟩
      have e : ((a.toNat : Nat) : Int) = a := by omega
      have h2 : (((a.toNat : Nat) : Int) + 1) * (((a.toNat : Nat) : Int) + 1 - 1) / 2 = ((a.toNat : Nat) : Int) * (((a.toNat : Nat) : Int) - 1) / 2 + ((a.toNat : Nat) : Int) := h
      rw [e] at h2
      show a * (a - 1) / 2 + a ≤ (a + 1 + ((0 : Nat) : Int)) * (a + 1 + ((0 : Nat) : Int) - 1) / 2
      rw [show a + 1 + ((0 : Nat) : Int) = a + 1 by omega, h2]
      exact Int.le_refl _
    | succ n ih =>
      intro hn
      have h1 := ih (by omega)
      have h := qcel_t ⟨(a + 1 + (n : Int)).toNat, by omega⟩
      have e : (((a + 1 + (n : Int)).toNat : Nat) : Int) = a + 1 + (n : Int) := by omega
      have h2 : ((((a + 1 + (n : Int)).toNat : Nat) : Int) + 1) * ((((a + 1 + (n : Int)).toNat : Nat) : Int) + 1 - 1) / 2 = (((a + 1 + (n : Int)).toNat : Nat) : Int) * ((((a + 1 + (n : Int)).toNat : Nat) : Int) - 1) / 2 + (((a + 1 + (n : Int)).toNat : Nat) : Int) := h
      rw [e] at h2
      rw [show a + 1 + ((n + 1 : Nat) : Int) = a + 1 + (n : Int) + 1 by omega, h2]
      omega
  exact key n hb
theorem qcel_inj {p q r s : Int} (hp : 0 ≤ p ∧ p < q ∧ q ≤ 31) (hr : 0 ≤ r ∧ r < s ∧ s ≤ 31) (h : qcel p q = qcel r s) : p = r ∧ q = s := by
  have e1 : qcel p q = q * (q - 1) / 2 + p := if_pos hp.2.1
  have e2 : qcel r s = s * (s - 1) / 2 + r := if_pos hr.2.1
  rw [e1, e2] at h
  by_cases c1 : q < s
  · have := qcel_lt (by omega) c1 hr.2.2
    omega
  · by_cases c2 : s < q
    · have := qcel_lt (by omega) c2 hp.2.2
      omega
    · have e : q = s := by omega
      subst e
      exact ⟨by omega, rfl⟩
theorem qcel_nn {p q : Int} (hp : 0 ≤ p ∧ p ≤ 31) (hq : 0 ≤ q ∧ q ≤ 31) : 0 ≤ qcel p q := by
  have key : ∀ n : Fin 32, 0 ≤ ((n : Nat) : Int) * (((n : Nat) : Int) - 1) / 2 := by decide
  have k2 : ∀ a : Int, 0 ≤ a → a ≤ 31 → 0 ≤ a * (a - 1) / 2 := fun a h0 h1 => by
    have h := key ⟨a.toNat, by omega⟩
    have e : ((a.toNat : Nat) : Int) = a := by omega
    have h2 : 0 ≤ ((a.toNat : Nat) : Int) * (((a.toNat : Nat) : Int) - 1) / 2 := h
    rwa [e] at h2
  unfold qcel
  split
  · have := k2 q hq.1 hq.2; omega
  · have := k2 p hp.1 hp.2; omega
def qCaN (s t : Nat → Int) (st : Int) (F : Int → Int → Int) : Prop := (∀ c : Nat, c < 496 → t c ≤ st) ∧ ∀ p q : Int, 0 ≤ p → p < q → q ≤ 31 → t (qcel p q).toNat = st → s (qcel p q).toNat = F p q
theorem qCaN_g {s t : Nat → Int} {st : Int} {F : Int → Int → Int} (h : qCaN s t st F) (sy : ∀ p q : Int, F p q = F q p) {x y : Int} (hx : 0 ≤ x ∧ x ≤ 31) (hy : 0 ≤ y ∧ y ≤ 31) (hxy : ¬ x = y) (hs : t (qcel x y).toNat = st) : s (qcel x y).toNat = F x y := by
  by_cases c : x < y
  · exact h.2 x y hx.1 c hy.2 hs
  · rw [qcel_sym hxy] at hs ⊢
    rw [sy x y]
    exact h.2 y x hy.1 (by omega) hx.2 hs
theorem qCaN_u {s t : Nat → Int} {st v : Int} {F : Int → Int → Int} (h : qCaN s t st F) (sy : ∀ p q : Int, F p q = F q p) {x y : Int} (hx : 0 ≤ x ∧ x ≤ 31) (hy : 0 ≤ y ∧ y ≤ 31) (hxy : ¬ x = y) (hv : v = F x y) : qCaN (qzu s (qcel x y).toNat v) (qzu t (qcel x y).toNat st) st F := by
  refine ⟨fun c hc => ?_, ?_⟩
  · show (if c = (qcel x y).toNat then st else t c) ≤ st
    split
    · exact Int.le_refl _
    · exact h.1 c hc
  intro p q h1 h2 h3 h4
  have hn := qcel_nn (p := p) (q := q) (by omega) (by omega)
  have hm := qcel_nn hx hy
  by_cases e : (qcel p q).toNat = (qcel x y).toNat
  · rw [e, qzu_at, hv]
    have e2 : qcel p q = qcel x y := by omega
    by_cases c : x < y
    · have := qcel_inj ⟨h1, h2, h3⟩ ⟨hx.1, c, hy.2⟩ e2
      rw [this.1, this.2]
    · rw [qcel_sym hxy] at e2
      have := qcel_inj ⟨h1, h2, h3⟩ ⟨hy.1, by omega, hx.2⟩ e2
      rw [this.1, this.2, sy]
  · have g : ∀ (f : Nat → Int) (w : Int), qzu f (qcel x y).toNat w (qcel p q).toNat = f (qcel p q).toNat := fun f w => if_neg e
    rw [g] at h4 ⊢
    exact h.2 p q h1 h2 h3 h4
/-- behind an opening nothing is kept -/
theorem qcel_le {p q : Int} (h : 0 ≤ p ∧ p < q ∧ q ≤ 31) : qcel p q ≤ 495 := by
  have key : ∀ n : Fin 32, ((n : Nat) : Int) * (((n : Nat) : Int) - 1) / 2 ≤ 465 := by decide
  have k1 := key ⟨q.toNat, by omega⟩
  have e : ((q.toNat : Nat) : Int) = q := by omega
  have k2 : ((q.toNat : Nat) : Int) * (((q.toNat : Nat) : Int) - 1) / 2 ≤ 465 := k1
  rw [e] at k2
  unfold qcel
  rw [if_pos h.2.1]
  omega
theorem qCaN_v {s t : Nat → Int} {st st0 : Int} {F : Int → Int → Int} (h : ∀ c : Nat, c < 496 → t c ≤ st0) (e : st = st0 + 1) : qCaN s t st F := by
  refine ⟨fun c hc => by have := h c hc; omega, fun p q h1 h2 h3 h4 => ?_⟩
  have h5 := qcel_le ⟨h1, h2, h3⟩
  have h6 := h (qcel p q).toNat (by omega)
  omega
theorem qcl_sym {a b c d t : Int} (ht : t ≤ 3) : qcl a b c d t = qcl c d a b t := by
  have h1 := qcl_c a b c d t
  have h2 := qcl_c c d a b t
  omega
theorem qnF_sy {σ α : Nat → Nat → Int} {κ : Nat → Option Nat} {ρ : Nat} (hI : qI σ α κ ρ) (h : Int) : ∀ p q : Int, (fun p q => qnF (qTb (α 24)) (α 28) (α 29) (α 31) (α 30) (α 33) (σ 27 6) (σ 27 7) p q h) p q = (fun p q => qnF (qTb (α 24)) (α 28) (α 29) (α 31) (α 30) (α 33) (σ 27 6) (σ 27 7) p q h) q p := by
  intro p q
  show qnk _ _ _ = qnk _ _ _
  refine qnk_eq _ (fun k hk => ⟨rfl, ?_⟩)
  have hn := hI.1 27 7
  have hn2 : σ 27 7 ≤ 40 := hn.2
  have hb := hI.2.1 31 k (show k < 40 by omega)
  have hb2 : α 31 k ≤ 3 := hb.2
  exact qcl_sym hb2
theorem qhB_sy (kd gv fr un : Nat → Int) (cov : Nat → Int → Int) (ln : Int → Int → Int) (h : Int) (n : Nat) : ∀ p q : Int, (fun p q => qbs (qhF kd gv fr un cov ln p q h) n) p q = (fun p q => qbs (qhF kd gv fr un cov ln p q h) n) q p := by
  intro p q
  exact qbs_eq n (fun k _ => qho_sym _ _ _ _ _ _ _ _ _ _ _)
theorem qhd_of {a b v v1 v2 : Int} (hv : -9223372036854775808 ≤ v ∧ v ≤ 9223372036854775807) (ha : v1 = a) (e1 : ql v2 = ql (ql_xor b (-1))) (e2 : ql v = ql (ql_and v1 v2)) : v = ql_and a (ql_xor b (-1)) := by
  have h1 := ql_val e2 hv (ql_and_r _ _)
  rw [h1, ha]
  unfold ql_and
  rw [e1]

set_option maxHeartbeats 4000000 in
set_option maxRecDepth 20000 in
/-- OneRoof$Moment.cell -/
theorem sf_93x {L : Nat} {xs : Nat → Int} {vb : Bool} {d : Nat} {σ α : Nat → Nat → Int} {κ : Nat → Option Nat} {ρ : Nat} {x0 : Int} {x1 : Int} (hI : qI σ α κ ρ) (r0 : 0 ≤ x0 ∧ x0 ≤ 31) (r1 : 0 ≤ x1 ∧ x1 ≤ 31) (p0 : ¬ x0 = x1) : qm_T (qe L xs vb) (d + 2) 93 [.int (qz x0), .int (qz x1)] (qw σ α κ ρ) (fun r w' => w' = qw σ α κ ρ ∧ ∃ v : Int, r = some (.int (qz v)) ∧ (0 ≤ v ∧ v ≤ 495) ∧ v = qcel x0 x1) := by
  refine qr_start (d := d + 1) qv_e93 (Nat.le_of_ble_eq_true rfl) ?_
  show qr_W (qe L xs vb) (d + 1) qx_e93 _ (0, [(0, .int (qz x0)), (1, .int (qz x1))], [], _, 0, 0)
  refine qr_iload_n 1 rfl rfl rfl ?_
  refine qr_iload_n 2 rfl rfl rfl ?_
  refine qr_callN 5 rfl rfl rfl (sf_12 (d := d + 0) hI (by omega) (by omega)) ?_
  rintro _ _ ⟨rfl, v1, rfl, hv1, hp2⟩
  show qr_W (qe L xs vb) (d + 1) qx_e93 _ (5, _, [.int (qz v1)], qw σ α κ ρ, 0, 0)
  refine qr_istore_n _ 6 rfl (by decide) rfl rfl ?_
  refine qr_iload_n 7 rfl rfl rfl ?_
  refine qr_iload_n 8 rfl rfl rfl ?_
  refine qr_callN 11 rfl rfl rfl (sf_30 (d := d + 0) hI (by omega) (by omega)) ?_
  rintro _ _ ⟨rfl, v3, rfl, hv3, hp4⟩
  show qr_W (qe L xs vb) (d + 1) qx_e93 _ (11, _, [.int (qz v3)], qw σ α κ ρ, 0, 0)
  refine qr_istore_n _ 12 rfl (by decide) rfl rfl ?_
  refine qr_iload_n 13 rfl rfl rfl ?_
  refine qr_iload_n 14 rfl rfl rfl ?_
  refine qr_iconst 15 rfl rfl ?_
  refine qr_isub 16 rfl rfl ?_
  refine qr_imul 17 rfl rfl ?_
  refine qy_mulE (A := 31) (B := 30) (C := 930) (by omega) (by omega) (by decide) (fun v5 hv5 hmv5 => ?_)
  refine qr_iconst 18 rfl rfl ?_
  refine qr_idiv 19 rfl (by omega) (by omega) rfl ?_
  refine qr_iload_n 20 rfl rfl rfl ?_
  refine qr_iadd 21 rfl rfl ?_
  refine qr_retI rfl rfl (by decide) (by decide) ?_
  exact ⟨rfl, ((v5 / 2) + v1), rfl, by omega, (qcel_of (by omega) (by omega) (by omega) hmv5)⟩

set_option maxHeartbeats 4000000 in
set_option maxRecDepth 20000 in
/-- OneRoof$Moment.nearKey -/
theorem sf_92_58x {L : Nat} {xs : Nat → Int} {vb : Bool} {d : Nat} {σ α : Nat → Nat → Int} {κ : Nat → Option Nat} {ρ : Nat} {x1 : Int} {x2 : Int} (hI : qI σ α κ ρ) (r1 : 0 ≤ x1 ∧ x1 ≤ 31) (r2 : 0 ≤ x2 ∧ x2 ≤ 31) (p0 : ¬ x1 = x2) (p1 : qCaN (α 60) (α 61) (σ 58 12) (fun p q => qnF (qTb (α 24)) (α 28) (α 29) (α 31) (α 30) (α 33) (σ 27 6) (σ 27 7) p q (σ 58 11))) : qm_T (qe L xs vb) (d + 3) 92 [.ref 58, .int (qz x1), .int (qz x2)] (qw σ α κ ρ) (fun r w' => ∃ α', w' = qw σ α' κ ρ ∧ qI σ α' κ ρ ∧ qFr [] [60, 61] σ α σ α' ∧ ∃ v : Int, r = some (.int (qz v)) ∧ (0 ≤ v ∧ v ≤ 576) ∧ v = qnF (qTb (α 24)) (α 28) (α 29) (α 31) (α 30) (α 33) (σ 27 6) (σ 27 7) x1 x2 (σ 58 11) ∧ qCaN (α' 60) (α' 61) (σ 58 12) (fun p q => qnF (qTb (α 24)) (α 28) (α 29) (α 31) (α 30) (α 33) (σ 27 6) (σ 27 7) p q (σ 58 11))) := by
  refine qr_start (d := d + 2) qv_e92 (Nat.le_of_ble_eq_true rfl) ?_
  show qr_W (qe L xs vb) (d + 2) qx_e92 _ (0, [(0, .ref 58), (1, .int (qz x1)), (2, .int (qz x2))], [], _, 0, 0)
  have hF0 := qFr_rf [] [60, 61] σ α
  have hz58_12 : (-2147483648) ≤ σ 58 12 ∧ σ 58 12 ≤ 2147483647 := hI.1 58 12
  have hz27_6 : (-9223372036854775808) ≤ σ 27 6 ∧ σ 27 6 ≤ 9223372036854775807 := hI.1 27 6
  have hz27_7 : 0 ≤ σ 27 7 ∧ σ 27 7 ≤ 40 := hI.1 27 7
  have hz58_11 : (-2147483648) ≤ σ 58 11 ∧ σ 58 11 ≤ 2147483647 := hI.1 58 11
  refine qr_iload_n 1 rfl rfl rfl ?_
  refine qr_iload_n 2 rfl rfl rfl ?_
  refine qr_callN 5 rfl rfl rfl (sf_93x (d := d + 0) hI (by omega) (by omega) (by omega)) ?_
  rintro _ _ ⟨rfl, v1, rfl, hv1, hp2⟩
  show qr_W (qe L xs vb) (d + 2) qx_e92 _ (5, _, [.int (qz v1)], qw σ α κ ρ, 0, 0)
  refine qr_istore_n _ 6 rfl (by decide) rfl rfl ?_
  refine qr_aload_n 7 rfl rfl rfl ?_
  refine qr_get 10 rfl rfl rfl (by decide) rfl ?_
  refine qr_iload_n 11 rfl rfl rfl ?_
  refine qr_iaload 12 rfl rfl (by omega) (by decide) rfl ?_
  refine qr_topI (fun v3 hv3 => ?_)
  have hs4 : (-2147483648) ≤ v3 ∧ v3 ≤ 2147483647 := by rw [hv3]; exact hI.2.1 61 _ (show _ < 496 by omega)
  have hrv3 : v3 = (α 61) (v1 : Int).toNat := hv3
  refine qr_aload_n 13 rfl rfl rfl ?_
  refine qr_get 16 rfl rfl rfl (by decide) rfl ?_
  refine qr_icmp_eq 52 19 rfl rfl rfl (by omega) (by omega) (fun h5 => ?_) (fun h5 => ?_)
  · skip
    refine qr_aload_n 53 rfl rfl rfl ?_
    refine qr_get 56 rfl rfl rfl (by decide) rfl ?_
    refine qr_iload_n 57 rfl rfl rfl ?_
    refine qr_iaload 58 rfl rfl (by omega) (by decide) rfl ?_
    refine qr_topI (fun v6 hv6 => ?_)
    have hs7 : 0 ≤ v6 ∧ v6 ≤ 576 := by rw [hv6]; exact hI.2.1 60 _ (show _ < 496 by omega)
    have hrv6 : v6 = (α 60) (v1 : Int).toNat := hv6
    refine qr_retI rfl rfl (by decide) (by decide) ?_
    exact ⟨_, rfl, hI, hF0, v6, rfl, by omega, (by rw [hv6, hp2]; exact qCaN_g p1 (qnF_sy hI (σ 58 11)) (by omega) (by omega) (by omega) (by rw [← hp2, ← hv3]; omega)), p1⟩
  · skip
    refine qr_aload_n 20 rfl rfl rfl ?_
    refine qr_get 23 rfl rfl rfl (by decide) rfl ?_
    refine qr_iload_n 24 rfl rfl rfl ?_
    refine qr_aload_n 25 rfl rfl rfl ?_
    refine qr_get 28 rfl rfl rfl (by decide) rfl ?_
    refine qr_iastore 29 rfl (by decide) rfl (by omega) (by decide) rfl ?_
    refine qy_wA (qw_r α 61 (qzu (α 61) (v1 : Int).toNat (σ 58 12))) rfl (fun α8 e9 => ?_)
    have hI10 : qI σ α8 κ ρ := by rw [e9]; exact qI_r hI 61 _ rfl (show (-2147483648) ≤ (σ 58 12) ∧ (σ 58 12) ≤ 2147483647 by omega)
    have hF11 : qFr [] [60, 61] σ α σ α8 := by rw [e9]; exact qFr_r hF0 61 _ (by decide)
    refine qr_aload_n 30 rfl rfl rfl ?_
    refine qr_get 33 rfl rfl rfl (by decide) rfl ?_
    refine qr_iload_n 34 rfl rfl rfl ?_
    refine qr_aload_n 35 rfl rfl rfl ?_
    refine qr_get 38 rfl rfl rfl (by decide) rfl ?_
    refine qr_iload_n 39 rfl rfl rfl ?_
    refine qr_iload_n 40 rfl rfl rfl ?_
    refine qr_aload_n 41 rfl rfl rfl ?_
    refine qr_get 44 rfl rfl rfl (by decide) rfl ?_
    refine qr_aload_n 45 rfl rfl rfl ?_
    refine qr_get 48 rfl rfl rfl (by decide) rfl ?_
    refine qr_callN 51 rfl rfl rfl (sf_66_27_23x (d := d + 0) hI10 (by omega) (by omega) (by omega)) ?_
    have hs14 : (-9223372036854775808) ≤ σ 27 6 ∧ σ 27 6 ≤ 9223372036854775807 := hI10.1 27 6
    have hs15 : 0 ≤ σ 27 7 ∧ σ 27 7 ≤ 40 := hI10.1 27 7
    rintro _ _ ⟨rfl, v12, rfl, hv12, hp13⟩
    rw [hF11.2 24 (by decide), hF11.2 28 (by decide), hF11.2 29 (by decide), hF11.2 30 (by decide), hF11.2 31 (by decide), hF11.2 33 (by decide)] at hp13
    show qr_W (qe L xs vb) (d + 2) qx_e92 _ (51, _, [.int (qz v12), .int (qz v1), .ref 60], qw σ α8 κ ρ, 0, 0)
    refine qr_iastore 52 rfl (by decide) rfl (by omega) (by decide) rfl ?_
    refine qy_wA (qw_r α8 60 (qzu (α8 60) (v1 : Int).toNat v12)) rfl (fun α16 e17 => ?_)
    have hI18 : qI σ α16 κ ρ := by rw [e17]; exact qI_r hI10 60 _ rfl (show 0 ≤ v12 ∧ v12 ≤ 576 by omega)
    have hF19 : qFr [] [60, 61] σ α σ α16 := by rw [e17]; exact qFr_r hF11 60 _ (by decide)
    refine qr_aload_n 53 rfl rfl rfl ?_
    refine qr_get 56 rfl rfl rfl (by decide) rfl ?_
    refine qr_iload_n 57 rfl rfl rfl ?_
    refine qr_iaload 58 rfl rfl (by omega) (by decide) rfl ?_
    refine qr_topI (fun v20 hv20 => ?_)
    have hs21 : 0 ≤ v20 ∧ v20 ≤ 576 := by rw [hv20]; exact hI18.2.1 60 _ (show _ < 496 by omega)
    have hrv20 : v20 = (qzu (α 60) (v1 : Int).toNat v12) (v1 : Int).toNat := hv20.trans (congrFun ((congrFun e17 60).trans (qw_r_eq.trans (congrArg (fun f => qzu f (v1 : Int).toNat v12) ((congrFun e9 60).trans ((qw_r_ne (by decide)).trans rfl))))) _)
    refine qr_retI rfl rfl (by decide) (by decide) ?_
    exact ⟨_, rfl, hI18, hF19, v20, rfl, by omega, (by rw [hv20]; exact (congrFun ((congrFun e17 60).trans (qw_r_eq.trans (congrArg (fun f => qzu f (v1 : Int).toNat v12) ((congrFun e9 60).trans ((qw_r_ne (by decide)).trans rfl))))) _).trans ((qzu_at _ _ _).trans hp13)), (by rw [((congrFun e17 60).trans (qw_r_eq.trans (congrArg (fun f => qzu f (v1 : Int).toNat v12) ((congrFun e9 60).trans ((qw_r_ne (by decide)).trans rfl))))), ((congrFun e17 61).trans ((qw_r_ne (by decide)).trans ((congrFun e9 61).trans (qw_r_eq.trans (congrArg (fun f => qzu f (v1 : Int).toNat (σ 58 12)) rfl))))), hp2]; exact qCaN_u p1 (qnF_sy hI (σ 58 11)) (by omega) (by omega) (by omega) hp13)⟩

set_option maxHeartbeats 4000000 in
set_option maxRecDepth 20000 in
/-- OneRoof$Moment.held -/
theorem sf_94_58x {L : Nat} {xs : Nat → Int} {vb : Bool} {d : Nat} {σ α : Nat → Nat → Int} {κ : Nat → Option Nat} {ρ : Nat} {x1 : Int} {x2 : Int} (hI : qI σ α κ ρ) (r1 : 0 ≤ x1 ∧ x1 ≤ 31) (r2 : 0 ≤ x2 ∧ x2 ≤ 31) (p0 : ¬ x1 = x2) (p1 : qCaN (α 62) (α 63) (σ 58 12) (fun p q => qbs (qhF (α 35) (α 36) (α 37) (α 40) (qcv (α 41)) (qlw (α 22)) p q (σ 58 11)) (σ 34 7 : Int).toNat)) (p2 : qZp σ α) : qm_T (qe L xs vb) (d + 3) 94 [.ref 58, .int (qz x1), .int (qz x2)] (qw σ α κ ρ) (fun r w' => ∃ α', w' = qw σ α' κ ρ ∧ qI σ α' κ ρ ∧ qFr [] [62, 63] σ α σ α' ∧ ∃ v : Int, r = some (.long (ql v)) ∧ ((-9223372036854775808) ≤ v ∧ v ≤ 9223372036854775807) ∧ v = ql_and (qbs (qhF (α 35) (α 36) (α 37) (α 40) (qcv (α 41)) (qlw (α 22)) x1 x2 (σ 58 11)) (σ 34 7 : Int).toNat) (ql_xor (σ 58 10) (-1)) ∧ qCaN (α' 62) (α' 63) (σ 58 12) (fun p q => qbs (qhF (α 35) (α 36) (α 37) (α 40) (qcv (α 41)) (qlw (α 22)) p q (σ 58 11)) (σ 34 7 : Int).toNat)) := by
  refine qr_start (d := d + 2) qv_e94 (Nat.le_of_ble_eq_true rfl) ?_
  show qr_W (qe L xs vb) (d + 2) qx_e94 _ (0, [(0, .ref 58), (1, .int (qz x1)), (2, .int (qz x2))], [], _, 0, 0)
  have hF0 := qFr_rf [] [62, 63] σ α
  have hz58_12 : (-2147483648) ≤ σ 58 12 ∧ σ 58 12 ≤ 2147483647 := hI.1 58 12
  have hz58_11 : (-2147483648) ≤ σ 58 11 ∧ σ 58 11 ≤ 2147483647 := hI.1 58 11
  have hz34_7 : 0 ≤ σ 34 7 ∧ σ 34 7 ≤ 60 := hI.1 34 7
  have hz58_10 : (-9223372036854775808) ≤ σ 58 10 ∧ σ 58 10 ≤ 9223372036854775807 := hI.1 58 10
  refine qr_iload_n 1 rfl rfl rfl ?_
  refine qr_iload_n 2 rfl rfl rfl ?_
  refine qr_callN 5 rfl rfl rfl (sf_93x (d := d + 0) hI (by omega) (by omega) (by omega)) ?_
  rintro _ _ ⟨rfl, v1, rfl, hv1, hp2⟩
  show qr_W (qe L xs vb) (d + 2) qx_e94 _ (5, _, [.int (qz v1)], qw σ α κ ρ, 0, 0)
  refine qr_istore_n _ 6 rfl (by decide) rfl rfl ?_
  refine qr_aload_n 7 rfl rfl rfl ?_
  refine qr_get 10 rfl rfl rfl (by decide) rfl ?_
  refine qr_iload_n 11 rfl rfl rfl ?_
  refine qr_iaload 12 rfl rfl (by omega) (by decide) rfl ?_
  refine qr_topI (fun v3 hv3 => ?_)
  have hs4 : (-2147483648) ≤ v3 ∧ v3 ≤ 2147483647 := by rw [hv3]; exact hI.2.1 63 _ (show _ < 496 by omega)
  have hrv3 : v3 = (α 63) (v1 : Int).toNat := hv3
  refine qr_aload_n 13 rfl rfl rfl ?_
  refine qr_get 16 rfl rfl rfl (by decide) rfl ?_
  refine qr_icmp_eq 52 19 rfl rfl rfl (by omega) (by omega) (fun h5 => ?_) (fun h5 => ?_)
  · skip
    refine qr_aload_n 53 rfl rfl rfl ?_
    refine qr_get 56 rfl rfl rfl (by decide) rfl ?_
    refine qr_iload_n 57 rfl rfl rfl ?_
    refine qr_laload 58 rfl (by decide) rfl (by omega) (by decide) rfl ?_
    refine qr_topL (fun v6 hv6 => ?_)
    have hs7 : (-9223372036854775808) ≤ v6 ∧ v6 ≤ 9223372036854775807 := by rw [hv6]; exact hI.2.1 62 _ (show _ < 496 by omega)
    have hrv6 : v6 = (α 62) (v1 : Int).toNat := hv6
    refine qr_aload_n 59 rfl rfl rfl ?_
    refine qr_get 62 rfl rfl rfl (by decide) rfl ?_
    refine qr_ldc2 (-1) 65 rfl (by decide) rfl ?_
    refine qr_lxor 66 rfl rfl ?_
    refine qy_canlE (fun v8 hv8 hev8 => ?_)
    refine qr_land 67 rfl rfl ?_
    refine qy_canlE (fun v9 hv9 hev9 => ?_)
    refine qr_retL rfl rfl (by decide) (by decide) ?_
    exact ⟨_, rfl, hI, hF0, v9, rfl, by omega, (qhd_of (by omega) (by rw [hv6, hp2]; exact qCaN_g p1 (qhB_sy _ _ _ _ _ _ _ _) (by omega) (by omega) (by omega) (by rw [← hp2, ← hv3]; omega)) hev8 hev9), p1⟩
  · skip
    refine qr_aload_n 20 rfl rfl rfl ?_
    refine qr_get 23 rfl rfl rfl (by decide) rfl ?_
    refine qr_iload_n 24 rfl rfl rfl ?_
    refine qr_aload_n 25 rfl rfl rfl ?_
    refine qr_get 28 rfl rfl rfl (by decide) rfl ?_
    refine qr_iastore 29 rfl (by decide) rfl (by omega) (by decide) rfl ?_
    refine qy_wA (qw_r α 63 (qzu (α 63) (v1 : Int).toNat (σ 58 12))) rfl (fun α10 e11 => ?_)
    have hI12 : qI σ α10 κ ρ := by rw [e11]; exact qI_r hI 63 _ rfl (show (-2147483648) ≤ (σ 58 12) ∧ (σ 58 12) ≤ 2147483647 by omega)
    have hF13 : qFr [] [62, 63] σ α σ α10 := by rw [e11]; exact qFr_r hF0 63 _ (by decide)
    refine qr_aload_n 30 rfl rfl rfl ?_
    refine qr_get 33 rfl rfl rfl (by decide) rfl ?_
    refine qr_iload_n 34 rfl rfl rfl ?_
    refine qr_aload_n 35 rfl rfl rfl ?_
    refine qr_get 38 rfl rfl rfl (by decide) rfl ?_
    refine qr_iload_n 39 rfl rfl rfl ?_
    refine qr_iload_n 40 rfl rfl rfl ?_
    refine qr_aload_n 41 rfl rfl rfl ?_
    refine qr_get 44 rfl rfl rfl (by decide) rfl ?_
    refine qr_aload_n 45 rfl rfl rfl ?_
    refine qr_get 48 rfl rfl rfl (by decide) rfl ?_
    refine qr_callN 51 rfl rfl rfl (sf_80_34_17x (d := d + 0) hI12 (by omega) (by omega) (by omega) (by omega) (qZp_fr hF13 (by decide) (by decide) p2)) ?_
    have hs16 : 0 ≤ σ 34 7 ∧ σ 34 7 ≤ 60 := hI12.1 34 7
    rintro _ _ ⟨rfl, v14, rfl, hv14, hp15⟩
    rw [hF13.2 22 (by decide), hF13.2 35 (by decide), hF13.2 36 (by decide), hF13.2 37 (by decide), hF13.2 40 (by decide), hF13.2 41 (by decide)] at hp15
    show qr_W (qe L xs vb) (d + 2) qx_e94 _ (51, _, [.long (ql v14), .int (qz v1), .ref 62], qw σ α10 κ ρ, 0, 0)
    refine qr_lastore 52 rfl (by decide) rfl (by omega) (by decide) rfl ?_
    refine qy_wA (qw_r α10 62 (qzu (α10 62) (v1 : Int).toNat v14)) rfl (fun α17 e18 => ?_)
    have hI19 : qI σ α17 κ ρ := by rw [e18]; exact qI_r hI12 62 _ rfl (show (-9223372036854775808) ≤ v14 ∧ v14 ≤ 9223372036854775807 by omega)
    have hF20 : qFr [] [62, 63] σ α σ α17 := by rw [e18]; exact qFr_r hF13 62 _ (by decide)
    refine qr_aload_n 53 rfl rfl rfl ?_
    refine qr_get 56 rfl rfl rfl (by decide) rfl ?_
    refine qr_iload_n 57 rfl rfl rfl ?_
    refine qr_laload 58 rfl (by decide) rfl (by omega) (by decide) rfl ?_
    refine qr_topL (fun v21 hv21 => ?_)
    have hs22 : (-9223372036854775808) ≤ v21 ∧ v21 ≤ 9223372036854775807 := by rw [hv21]; exact hI19.2.1 62 _ (show _ < 496 by omega)
    have hrv21 : v21 = (qzu (α 62) (v1 : Int).toNat v14) (v1 : Int).toNat := hv21.trans (congrFun ((congrFun e18 62).trans (qw_r_eq.trans (congrArg (fun f => qzu f (v1 : Int).toNat v14) ((congrFun e11 62).trans ((qw_r_ne (by decide)).trans rfl))))) _)
    refine qr_aload_n 59 rfl rfl rfl ?_
    refine qr_get 62 rfl rfl rfl (by decide) rfl ?_
    refine qr_ldc2 (-1) 65 rfl (by decide) rfl ?_
    refine qr_lxor 66 rfl rfl ?_
    refine qy_canlE (fun v23 hv23 hev23 => ?_)
    refine qr_land 67 rfl rfl ?_
    refine qy_canlE (fun v24 hv24 hev24 => ?_)
    refine qr_retL rfl rfl (by decide) (by decide) ?_
    exact ⟨_, rfl, hI19, hF20, v24, rfl, by omega, (qhd_of (by omega) (by rw [hv21]; exact (congrFun ((congrFun e18 62).trans (qw_r_eq.trans (congrArg (fun f => qzu f (v1 : Int).toNat v14) ((congrFun e11 62).trans ((qw_r_ne (by decide)).trans rfl))))) _).trans ((qzu_at _ _ _).trans hp15)) hev23 hev24), (by rw [((congrFun e18 62).trans (qw_r_eq.trans (congrArg (fun f => qzu f (v1 : Int).toNat v14) ((congrFun e11 62).trans ((qw_r_ne (by decide)).trans rfl))))), ((congrFun e18 63).trans ((qw_r_ne (by decide)).trans ((congrFun e11 63).trans (qw_r_eq.trans (congrArg (fun f => qzu f (v1 : Int).toNat (σ 58 12)) rfl))))), hp2]; exact qCaN_u p1 (qhB_sy _ _ _ _ _ _ _ _) (by omega) (by omega) (by omega) hp15)⟩
