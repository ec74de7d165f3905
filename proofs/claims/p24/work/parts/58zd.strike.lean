section
/-! strike -/
def qst (x n : Int) : Prop := 0 ≤ x ∧ qlu x / 2 ^ n.toNat = 0
theorem qlu_shr0 {v a b : Int} (ha : 0 ≤ a ∧ a ≤ 9223372036854775807) (hb : 0 ≤ b ∧ b ≤ 63) (h : ql v = ql (ql_shr a b)) : qlu v = qlu a / 2 ^ b.toNat := by
  obtain ⟨m, rfl⟩ : ∃ m : Nat, b = m := ⟨b.toNat, by omega⟩
  have hm : m < 64 := by omega
  have g0 : (ql v).toBitVec = (ql a).toBitVec.sshiftRight m := by
    rw [h]
    unfold ql_shr
    rw [← ql_of, Int64.toBitVec_shiftRight, qb63s ⟨m, hm⟩]
    show (ql a).toBitVec.sshiftRight (BitVec.ofNat 64 m).toNat = _
    rw [BitVec.toNat_ofNat, Nat.mod_eq_of_lt (by omega)]
  have hn : (ql a).toBitVec.msb = false := by
    have h1 := qlu_nn ha
    rw [BitVec.msb_eq_false_iff_two_mul_lt]
    show 2 * qlu a < 2 ^ 64
    omega
  unfold qlu
  rw [g0, BitVec.sshiftRight_eq_of_msb_false hn, BitVec.toNat_ushiftRight, Nat.shiftRight_eq_div_pow, Int.toNat_natCast]
theorem qlu_z {v : Int} (h : -9223372036854775808 ≤ v ∧ v ≤ 9223372036854775807) : v = 0 ↔ qlu v = 0 := by
  constructor
  · intro e
    rw [e]
    rfl
  · intro e
    have h1 := qlu_sm h (by omega)
    omega
theorem qst_1 {x n y : Int} (hy : -9223372036854775808 ≤ y ∧ y ≤ 9223372036854775807) (hx : 0 ≤ x) (e : qlu y = qlu x / 2 ^ n.toNat) (h : y = 0) : qst x n := ⟨hx, by rw [← e]; exact (qlu_z hy).mp h⟩
theorem qst_0 {x n y : Int} (hy : -9223372036854775808 ≤ y ∧ y ≤ 9223372036854775807) (e : qlu y = qlu x / 2 ^ n.toNat) (h : ¬ y = 0) : ¬ qst x n := fun z => h ((qlu_z hy).mpr (by rw [e]; exact z.2))
theorem qHq_c {σ α σ' α' : Nat → Nat → Int} {h : qHS} (es : ∀ a k, (a, k) ∈ [(17, 6), (27, 7), (34, 7), (76, 7), (76, 8)] → σ' a k = σ a k) (er : ∀ a, a ∈ [20, 33, 35, 38, 39, 40, 41, 77, 78, 79, 80] → α' a = α a) (hq : qHq σ α h) : qHq σ' α' h := by
  unfold qHq qRm qUn at hq ⊢
  rw [es 17 6 (by decide), es 27 7 (by decide), es 34 7 (by decide), es 76 7 (by decide), es 76 8 (by decide), er 20 (by decide), er 33 (by decide), er 35 (by decide), er 38 (by decide), er 39 (by decide), er 40 (by decide), er 41 (by decide), er 77 (by decide), er 78 (by decide), er 79 (by decide), er 80 (by decide)]
  exact hq
theorem qHq_fr {S : List (Nat × Nat)} {R : List Nat} {σ α σ' α' : Nat → Nat → Int} {h : qHS} (hG : qFr S R σ α σ' α') (hs : [(17, 6), (27, 7), (34, 7), (76, 7), (76, 8)].all (fun x => !S.contains x) = true) (hr : [20, 33, 35, 38, 39, 40, 41, 77, 78, 79, 80].all (fun x => !R.contains x) = true) (hq : qHq σ α h) : qHq σ' α' h := by
  refine qHq_c (fun a k hm => hG.1 a k (fun hn => ?_)) (fun a hm => hG.2 a (fun hn => ?_)) hq
  · have h1 := List.all_eq_true.mp hs (a, k) hm
    rw [List.contains_iff_mem.mpr hn] at h1
    exact absurd h1 (by decide)
  · have h1 := List.all_eq_true.mp hr a hm
    rw [List.contains_iff_mem.mpr hn] at h1
    exact absurd h1 (by decide)
/-- the peaces of a row set to broken, one after another -/
noncomputable def qkr (f : Nat → Int) : Nat → qHS → qHS
  | 0, h => h
  | n + 1, h => qbec (qkr f n h) (192 + f n) 6
theorem qtake_s : ∀ (l : List Int) (n : Nat) (h : n < l.length), l.take (n + 1) = l.take n ++ [l[n]]
  | [], n, h => absurd h (Nat.not_lt_zero n)
  | a :: l, 0, h => rfl
  | a :: l, n + 1, h => by
    have ih := qtake_s l n (by have : n + 1 < l.length + 1 := h; omega)
    show a :: l.take (n + 1) = a :: (l.take n ++ [l[n]'(by have : n + 1 < l.length + 1 := h; omega)])
    rw [ih]
theorem qkr_t {f : Nat → Int} {l : List Int} {h : qHS} (e : ∀ (i : Nat) (hi : i < l.length), f i = l[i]) : ∀ n : Nat, n ≤ l.length → qkr f n h = qkn (l.take n) h
  | 0, _ => rfl
  | n + 1, hn => by
    rw [qtake_s l n (by omega), qkn_app, ← qkr_t e n (by omega), ← e n (by omega)]
    rfl
theorem qkr_ls {f : Nat → Int} {n : Int} {l : List Int} {h : qHS} (hl : qLs f n l) : qkr f n.toNat h = qkn l h := by
  have h1 := qkr_t (h := h) hl.2 l.length (Nat.le_refl _)
  rw [List.take_length] at h1
  rw [← h1]
  have := hl.1
  congr 1
  omega
theorem qkr_s {σ α : Nat → Nat → Int} {f : Nat → Int} {i v : Int} {h : qHS} (hi : 0 ≤ i) (hv : v = f i.toNat) (hq : qHq σ α (qbec (qkr f i.toNat h) (qat 3 v) (qwd (qkr f i.toNat h).1 3 v 6))) : qHq σ α (qkr f (i + 1).toNat h) := by
  rw [show (i + 1).toNat = i.toNat + 1 by omega]
  have e1 : qat 3 v = 192 + f i.toNat := by rw [hv]; rfl
  have e2 : qwd (qkr f i.toNat h).1 3 v 6 = 6 := rfl
  rw [e1, e2] at hq
  exact hq
/-- those broken are peaces -/
theorem qland_mem {H : Int → Int → Int → Nat → Int} {B : Int → Nat → Int} {n : Nat} {s : qTS} {v : Int} (h : ∀ x ∈ s.2.2.2, 0 ≤ x ∧ x < (n : Int)) : ∀ x ∈ (qland H B n s v).2.2.2, 0 ≤ x ∧ x < (n : Int) := fun x hx => by
  rcases List.mem_append.mp hx with f | f
  · exact h x f
  · exact ((qBr_mem n x).mp f).1
theorem qtell_mem {H : Int → Int → Int → Nat → Int} {B : Int → Nat → Int} {n : Nat} {W : Int → Int → Int → Int → Int → Int → Int} {N : Int} : ∀ (k : Nat) (s : qTS), (∀ x ∈ s.2.2.2, 0 ≤ x ∧ x < (n : Int)) → ∀ x ∈ (qtell H B n W N k s).2.2.2, 0 ≤ x ∧ x < (n : Int)
  | 0, s, h => h
  | k + 1, s, h => by
    by_cases c : qnext W N s < 0
    · rw [show qtell H B n W N (k + 1) s = s from if_pos c]
      exact h
    · rw [show qtell H B n W N (k + 1) s = qtell H B n W N k (qland H B n s (qnext W N s)) from if_neg c]
      exact qtell_mem k _ (qland_mem h)
theorem qLs_mem {f : Nat → Int} {n m : Int} {l : List Int} (hl : qLs f n l) (h : ∀ x ∈ l, 0 ≤ x ∧ x < m) : ∀ i : Nat, (i : Int) < n → 0 ≤ f i ∧ f i < m := fun i hi => by
  have h1 := hl.1
  have h2 := hl.2 i (by omega)
  rw [h2]
  exact h _ (List.getElem_mem _)
/-- a telling as the class has it, with the hour told -/
noncomputable def qFINc (σ α : Nat → Nat → Int) (f0 f1 : (Nat → Int) → Int) (hr LV v : Int) : qTS := qtell (qHc (qw_s σ 58 11 hr) α) (qBc σ α) (σ 34 7 : Int).toNat (qWc (qw_s σ 58 11 hr) α f0 f1) (σ 17 6) 30 (qland (qHc (qw_s σ 58 11 hr) α) (qBc σ α) (σ 34 7 : Int).toNat ([], LV, 0, []) v)
theorem qFINc_o {σ σ1 α : Nat → Nat → Int} {f0 f1 : (Nat → Int) → Int} {hr LV v w : Int} (e11 : σ1 58 11 = hr) (e17 : σ1 17 6 = σ 17 6) (e26 : σ1 27 6 = σ 27 6) (e27 : σ1 27 7 = σ 27 7) (e34 : σ1 34 7 = σ 34 7) (hv : v = w) : qtell (qHc σ1 α) (qBc σ1 α) (σ1 34 7 : Int).toNat (qWc σ1 α f0 f1) (σ1 17 6) 30 (qland (qHc σ1 α) (qBc σ1 α) (σ1 34 7 : Int).toNat ([], LV, 0, []) v) = qFINc σ α f0 f1 hr LV w := by
  have x11 : qw_s σ 58 11 hr 58 11 = hr := rfl
  have h1 : qHc σ1 α = qHc (qw_s σ 58 11 hr) α := by
    unfold qHc
    rw [e11, x11]
  have h2 : qNVc σ1 α = qNVc (qw_s σ 58 11 hr) α := by
    unfold qNVc
    rw [e11, e17, e26, e27, e34]
    rfl
  have h3 : qWc σ1 α f0 f1 = qWc (qw_s σ 58 11 hr) α f0 f1 := by
    unfold qWc
    rw [h2]
  unfold qFINc
  rw [h1, h3, e17, e34, hv]
  rfl
theorem qTd_c {σ α σ' α' : Nat → Nat → Int} {r : Nat} {s : qTS} (e1 : α' (r + 1) = α (r + 1)) (e2 : α' (r + 2) = α (r + 2)) (e3 : σ' r 2 = σ r 2) (e4 : σ' r 3 = σ r 3) (e5 : σ' r 5 = σ r 5) (h : qTd σ α r s) : qTd σ' α' r s := by
  unfold qTd
  rw [e1, e2, e3, e4, e5]
  exact h
theorem qand_id (x d : Int) : ql_and (ql_and x d) d = ql_and x d := by
  refine qbit_ext (ql_and_r _ _) (ql_and_r _ _) (fun i _ _ => ?_)
  have a1 := qband_c (ql_and x d) d i
  have a2 := qband_c x d i
  omega
/-- a telling as the reference has it -/
noncomputable def qFINm (σ α : Nat → Nat → Int) (g0 g1 : (Nat → Int) → Int) (hr LV v : Int) : qTS := qtell (qHr σ α hr) (qBm σ α) (σ 86 24 : Int).toNat (qWr σ α g0 g1 hr) (σ 86 6) 30 (qland (qHr σ α hr) (qBm σ α) (σ 86 24 : Int).toNat ([], LV, 0, []) v)
def qTe (σ α : Nat → Nat → Int) (s : qTS) : Prop := ((s.1.length : Int) = σ 86 50 ∧ ∀ (i : Nat) (h : i < s.1.length), α 115 i = s.1[i] / 100 ∧ α 116 i = s.1[i] % 100) ∧ σ 86 51 = s.2.1
theorem qTe_of {σ α σ' : Nat → Nat → Int} {st : Int} {s : qTS} (e1 : σ' 86 50 = σ 86 50) (e2 : σ' 86 51 = σ 86 51) (h : qTr σ α st s) (h51 : σ 86 51 = s.2.1) : qTe σ' α s := by
  unfold qTe
  rw [e1, e2]
  exact ⟨⟨h.1.1, fun i hi => ⟨(h.1.2 i hi).1, (h.1.2 i hi).2.1⟩⟩, h51⟩

set_option maxHeartbeats 4000000 in
set_option maxRecDepth 20000 in
/-- OneRoof$Folk.isSet -/
theorem sf_88_17x {L : Nat} {xs : Nat → Int} {vb : Bool} {d : Nat} {σ α : Nat → Nat → Int} {κ : Nat → Option Nat} {ρ : Nat} {x1 : Int} (hI : qI σ α κ ρ) (r1 : (-9223372036854775808) ≤ x1 ∧ x1 ≤ 9223372036854775807) : qm_T (qe L xs vb) (d + 1) 88 [.ref 17, .long (ql x1)] (qw σ α κ ρ) (fun r w' => w' = qw σ α κ ρ ∧ ∃ v : Int, r = some (.int (qz v)) ∧ (0 ≤ v ∧ v ≤ 1) ∧ ((v = 1 ∧ qst x1 (σ 17 6)) ∨ (v = 0 ∧ ¬ (qst x1 (σ 17 6))))) := by
  refine qr_start (d := d + 0) qv_e88 (Nat.le_of_ble_eq_true rfl) ?_
  show qr_W (qe L xs vb) (d + 0) qx_e88 _ (0, [(0, .ref 17), (1, .long (ql x1))], [], _, 0, 0)
  have hz17_6 : 0 ≤ σ 17 6 ∧ σ 17 6 ≤ 32 := hI.1 17 6
  refine qr_lload_n 1 rfl rfl rfl ?_
  refine qr_lconst 2 rfl rfl ?_
  refine qy_vl 0 rfl ?_
  refine qr_lc_lt 21 6 rfl rfl rfl rfl r1 (by decide) (fun h1 => ?_) (fun h1 => ?_)
  · skip
    refine qr_iconst 22 rfl rfl ?_
    refine qr_retZ rfl rfl (Or.inl rfl) (by decide) (by decide) ?_
    exact ⟨rfl, 0, rfl, (by decide), (Or.inr ⟨rfl, fun z => absurd z.1 (by omega)⟩)⟩
  · skip
    refine qr_lload_n 7 rfl rfl rfl ?_
    refine qr_aload_n 8 rfl rfl rfl ?_
    refine qr_get 11 rfl rfl rfl (by decide) rfl ?_
    refine qr_lushr 12 rfl rfl ?_
    refine qy_canlE (fun v2 hv2 hev2 => ?_)
    refine qr_lconst 13 rfl rfl ?_
    refine qy_vl 0 rfl ?_
    refine qr_lc_ne 21 17 rfl rfl rfl rfl hv2 (by decide) (fun h3 => ?_) (fun h3 => ?_)
    · skip
      refine qr_iconst 22 rfl rfl ?_
      refine qr_retZ rfl rfl (Or.inl rfl) (by decide) (by decide) ?_
      exact ⟨rfl, 0, rfl, (by decide), (Or.inr ⟨rfl, qst_0 (by omega) (qlu_ushr (by omega) hev2) (by omega)⟩)⟩
    · skip
      refine qr_iconst 18 rfl rfl ?_
      refine qr_goto 22 rfl rfl ?_
      refine qr_retZ rfl rfl (Or.inr rfl) (by decide) (by decide) ?_
      exact ⟨rfl, 1, rfl, (by decide), (Or.inl ⟨rfl, qst_1 (by omega) (by omega) (qlu_ushr (by omega) hev2) (by omega)⟩)⟩

set_option maxHeartbeats 4000000 in
set_option maxRecDepth 20000 in
/-- OneRoofModel.isSet -/
theorem sf_225_86x {L : Nat} {xs : Nat → Int} {vb : Bool} {d : Nat} {σ α : Nat → Nat → Int} {κ : Nat → Option Nat} {ρ : Nat} {x1 : Int} (hI : qI σ α κ ρ) (r1 : (-9223372036854775808) ≤ x1 ∧ x1 ≤ 9223372036854775807) : qm_T (qe L xs vb) (d + 1) 225 [.ref 86, .long (ql x1)] (qw σ α κ ρ) (fun r w' => w' = qw σ α κ ρ ∧ ∃ v : Int, r = some (.int (qz v)) ∧ (0 ≤ v ∧ v ≤ 1) ∧ ((v = 1 ∧ qst x1 (σ 86 6)) ∨ (v = 0 ∧ ¬ (qst x1 (σ 86 6))))) := by
  refine qr_start (d := d + 0) qv_e225 (Nat.le_of_ble_eq_true rfl) ?_
  show qr_W (qe L xs vb) (d + 0) qx_e225 _ (0, [(0, .ref 86), (1, .long (ql x1))], [], _, 0, 0)
  have hz86_6 : 0 ≤ σ 86 6 ∧ σ 86 6 ≤ 32 := hI.1 86 6
  refine qr_lload_n 1 rfl rfl rfl ?_
  refine qr_lconst 2 rfl rfl ?_
  refine qy_vl 0 rfl ?_
  refine qr_lc_lt 21 6 rfl rfl rfl rfl r1 (by decide) (fun h1 => ?_) (fun h1 => ?_)
  · skip
    refine qr_iconst 22 rfl rfl ?_
    refine qr_retZ rfl rfl (Or.inl rfl) (by decide) (by decide) ?_
    exact ⟨rfl, 0, rfl, (by decide), (Or.inr ⟨rfl, fun z => absurd z.1 (by omega)⟩)⟩
  · skip
    refine qr_lload_n 7 rfl rfl rfl ?_
    refine qr_aload_n 8 rfl rfl rfl ?_
    refine qr_get 11 rfl rfl rfl (by decide) rfl ?_
    refine qr_lshr 12 rfl rfl ?_
    refine qy_canlE (fun v2 hv2 hev2 => ?_)
    refine qr_lconst 13 rfl rfl ?_
    refine qy_vl 0 rfl ?_
    refine qr_lc_ne 21 17 rfl rfl rfl rfl hv2 (by decide) (fun h3 => ?_) (fun h3 => ?_)
    · skip
      refine qr_iconst 22 rfl rfl ?_
      refine qr_retZ rfl rfl (Or.inl rfl) (by decide) (by decide) ?_
      exact ⟨rfl, 0, rfl, (by decide), (Or.inr ⟨rfl, qst_0 (by omega) (qlu_shr0 (by omega) (by omega) hev2) (by omega)⟩)⟩
    · skip
      refine qr_iconst 18 rfl rfl ?_
      refine qr_goto 22 rfl rfl ?_
      refine qr_retZ rfl rfl (Or.inr rfl) (by decide) (by decide) ?_
      exact ⟨rfl, 1, rfl, (by decide), (Or.inl ⟨rfl, qst_1 (by omega) (by omega) (qlu_shr0 (by omega) (by omega) hev2) (by omega)⟩)⟩

set_option maxHeartbeats 4000000 in
set_option maxRecDepth 20000 in
/-- OneRoof$Moment.open -/
theorem sf_89_58x {L : Nat} {xs : Nat → Int} {vb : Bool} {d : Nat} {σ α : Nat → Nat → Int} {κ : Nat → Option Nat} {ρ : Nat} {x1 : Int} (hI : qI σ α κ ρ) (r1 : (-2147483648) ≤ x1 ∧ x1 ≤ 2147483647) (p0 : 0 ≤ σ 58 12 ∧ σ 58 12 ≤ 2000000000) : qm_T (qe L xs vb) (d + 1) 89 [.ref 58, .int (qz x1)] (qw σ α κ ρ) (fun r w' => ∃ σ', w' = qw σ' α κ ρ ∧ qI σ' α κ ρ ∧ qFr [(58, 11), (58, 12)] [] σ α σ' α ∧ σ' 58 11 = x1 ∧ σ' 58 12 = σ 58 12 + 1 ∧ r = none) := by
  refine qr_start (d := d + 0) qv_e89 (Nat.le_of_ble_eq_true rfl) ?_
  show qr_W (qe L xs vb) (d + 0) qx_e89 _ (0, [(0, .ref 58), (1, .int (qz x1))], [], _, 0, 0)
  have hF0 := qFr_rf [(58, 11), (58, 12)] [] σ α
  have hz58_12 : (-2147483648) ≤ σ 58 12 ∧ σ 58 12 ≤ 2147483647 := hI.1 58 12
  refine qr_aload_n 1 rfl rfl rfl ?_
  refine qr_iload_n 2 rfl rfl rfl ?_
  refine qr_put 5 rfl (by decide) rfl (Nat.le_of_ble_eq_true rfl) (Nat.le_of_ble_eq_true rfl) (Or.inl rfl) (qr_fitI rfl _) rfl ?_
  refine qy_wS (qw_s σ 58 11 x1) rfl (fun σ1 e2 => ?_)
  have hI3 : qI σ1 α κ ρ := by rw [e2]; exact qI_s hI 58 11 rfl (show (-2147483648) ≤ x1 ∧ x1 ≤ 2147483647 by omega)
  have hF4 : qFr [(58, 11), (58, 12)] [] σ α σ1 α := by rw [e2]; exact qFr_s hF0 58 11 _ (by decide)
  refine qr_aload_n 6 rfl rfl rfl ?_
  refine qr_dup 7 rfl rfl rfl ?_
  refine qr_get 10 rfl rfl rfl (by decide) rfl ?_
  refine qy_v (σ 58 12) ((congrFun (congrFun e2 58) 12).trans rfl) ?_
  refine qr_iconst 11 rfl rfl ?_
  refine qr_iadd 12 rfl rfl ?_
  refine qr_put 15 rfl (by decide) rfl (Nat.le_of_ble_eq_true rfl) (Nat.le_of_ble_eq_true rfl) (Or.inl rfl) (qr_fitI rfl _) rfl ?_
  refine qy_wS (qw_s σ1 58 12 ((σ 58 12) + 1)) rfl (fun σ5 e6 => ?_)
  have hI7 : qI σ5 α κ ρ := by rw [e6]; exact qI_s hI3 58 12 rfl (show (-2147483648) ≤ ((σ 58 12) + 1) ∧ ((σ 58 12) + 1) ≤ 2147483647 by omega)
  have hF8 : qFr [(58, 11), (58, 12)] [] σ α σ5 α := by rw [e6]; exact qFr_s hF4 58 12 _ (by decide)
  refine qr_retV rfl rfl (by decide) (by decide) ?_
  exact ⟨_, rfl, hI7, hF8, (by have hw : σ5 58 11 = x1 := (congrFun (congrFun e6 58) 11).trans ((congrFun (congrFun e2 58) 11).trans rfl); omega), (by have hw : σ5 58 12 = ((σ 58 12) + 1) := (congrFun (congrFun e6 58) 12).trans rfl; omega), rfl⟩

set_option maxHeartbeats 4000000 in
set_option maxRecDepth 20000 in
/-- OneRoof.strike -/
theorem sf_133_16x {L : Nat} {xs : Nat → Int} {vb : Bool} {d : Nat} {σ α : Nat → Nat → Int} {κ : Nat → Option Nat} {ρ : Nat} {x1 : Int} {x2 : Int} {x3 : Int} {x4 : Int} {f0 f1 : (Nat → Int) → Int} {h : qHS} (hI : qI σ α κ ρ) (r1 : (-2147483648) ≤ x1 ∧ x1 ≤ 2147483647) (r2 : (-9223372036854775808) ≤ x2 ∧ x2 ≤ 9223372036854775807) (r3 : (-2147483648) ≤ x3 ∧ x3 ≤ 2147483647) (r4 : (-2147483648) ≤ x4 ∧ x4 ≤ 2147483647) (p0 : qPW σ α κ (0 : Int).toNat f0) (p1 : qPW σ α κ (1 : Int).toNat f1) (p2 : qZp σ α) (p3 : σ 58 10 = 0) (p4 : ∀ c : Nat, c < 496 → α 61 c ≤ σ 58 12) (p5 : ∀ c : Nat, c < 496 → α 63 c ≤ σ 58 12) (p6 : 0 ≤ σ 58 12 ∧ σ 58 12 ≤ 2000000000) (p7 : qHq σ α h) : qm_T (qe L xs vb) (d + 7) 133 [.ref 16, .int (qz x1), .long (ql x2), .int (qz x3), .int (qz x4)] (qw σ α κ ρ) (fun r w' => ∃ σ' α', w' = qw σ' α' κ ρ ∧ qI σ' α' κ ρ ∧ qFr [(17, 5), (58, 10), (58, 11), (58, 12), (70, 2), (70, 3), (70, 5), (70, 6), (76, 7), (76, 8)] [20, 33, 35, 41, 53, 57, 59, 60, 61, 62, 63, 71, 72, 77, 78, 79, 80, 85] σ α σ' α' ∧ ∃ v : Int, r = some (.int (qz v)) ∧ ((-2147483648) ≤ v ∧ v ≤ 2147483647) ∧ ((v = -1 ∧ ¬ (0 ≤ x1 ∧ x1 / 100 < σ 17 6 ∧ x1 % 100 < σ 17 6 ∧ ¬ x1 / 100 = x1 % 100 ∧ qst x2 (σ 17 6) ∧ 0 ≤ x3 ∧ x3 ≤ 2399 ∧ 0 ≤ x4 ∧ x4 ≤ 1 ∧ qbit (ql_and x2 (ql_xor (σ 17 5) (-1))) (x1 / 100) = 1 ∧ qbit (ql_and x2 (ql_xor (σ 17 5) (-1))) (x1 % 100) = 1) ∧ qHq σ' α' h ∧ σ' 70 2 = σ 70 2 ∧ σ' 70 3 = σ 70 3 ∧ α' 71 = α 71 ∧ σ' 17 5 = σ 17 5) ∨ ((0 ≤ x1 ∧ x1 / 100 < σ 17 6 ∧ x1 % 100 < σ 17 6 ∧ ¬ x1 / 100 = x1 % 100 ∧ qst x2 (σ 17 6) ∧ 0 ≤ x3 ∧ x3 ≤ 2399 ∧ 0 ≤ x4 ∧ x4 ≤ 1 ∧ qbit (ql_and x2 (ql_xor (σ 17 5) (-1))) (x1 / 100) = 1 ∧ qbit (ql_and x2 (ql_xor (σ 17 5) (-1))) (x1 % 100) = 1) ∧ v = ((qFINc σ α f0 f1 x3 (ql_and x2 (ql_xor (σ 17 5) (-1))) x1).1.length : Int) ∧ qTd σ' α' 70 (qFINc σ α f0 f1 x3 (ql_and x2 (ql_xor (σ 17 5) (-1))) x1) ∧ ((x4 = 0 ∧ σ' 17 5 = σ 17 5 ∧ qHq σ' α' h) ∨ (x4 = 1 ∧ σ' 17 5 = ql_or (σ 17 5) (ql_and (ql_and x2 (ql_xor (σ 17 5) (-1))) (ql_xor (qFINc σ α f0 f1 x3 (ql_and x2 (ql_xor (σ 17 5) (-1))) x1).2.1 (-1))) ∧ qHq σ' α' (qkn (qFINc σ α f0 f1 x3 (ql_and x2 (ql_xor (σ 17 5) (-1))) x1).2.2.2 h))))) ∧ (∀ c : Nat, c < 496 → α' 61 c ≤ σ' 58 12) ∧ (∀ c : Nat, c < 496 → α' 63 c ≤ σ' 58 12) ∧ (0 ≤ σ' 58 12 ∧ σ' 58 12 ≤ σ 58 12 + 1) ∧ σ' 58 10 = 0) := by
  refine qr_start (d := d + 6) qv_e133 (Nat.le_of_ble_eq_true rfl) ?_
  show qr_W (qe L xs vb) (d + 6) qx_e133 _ (0, [(0, .ref 16), (1, .int (qz x1)), (2, .long (ql x2)), (4, .int (qz x3)), (5, .int (qz x4))], [], _, 0, 0)
  have hF0 := qFr_rf [(17, 5), (58, 10), (58, 11), (58, 12), (70, 2), (70, 3), (70, 5), (70, 6), (76, 7), (76, 8)] [20, 33, 35, 41, 53, 57, 59, 60, 61, 62, 63, 71, 72, 77, 78, 79, 80, 85] σ α
  have hz58_10 : (-9223372036854775808) ≤ σ 58 10 ∧ σ 58 10 ≤ 9223372036854775807 := hI.1 58 10
  have hz58_12 : (-2147483648) ≤ σ 58 12 ∧ σ 58 12 ≤ 2147483647 := hI.1 58 12
  have hz17_5 : (-9223372036854775808) ≤ σ 17 5 ∧ σ 17 5 ≤ 9223372036854775807 := hI.1 17 5
  have hz17_6 : 0 ≤ σ 17 6 ∧ σ 17 6 ≤ 32 := hI.1 17 6
  have hz27_7 : 0 ≤ σ 27 7 ∧ σ 27 7 ≤ 40 := hI.1 27 7
  have hz34_7 : 0 ≤ σ 34 7 ∧ σ 34 7 ≤ 60 := hI.1 34 7
  have hz58_11 : (-2147483648) ≤ σ 58 11 ∧ σ 58 11 ≤ 2147483647 := hI.1 58 11
  have hz70_2 : 0 ≤ σ 70 2 ∧ σ 70 2 ≤ 31 := hI.1 70 2
  have hz70_3 : (-9223372036854775808) ≤ σ 70 3 ∧ σ 70 3 ≤ 9223372036854775807 := hI.1 70 3
  have hz70_5 : 0 ≤ σ 70 5 ∧ σ 70 5 ≤ 60 := hI.1 70 5
  have hz76_7 : 0 ≤ σ 76 7 ∧ σ 76 7 ≤ 40 := hI.1 76 7
  have hz76_8 : 0 ≤ σ 76 8 ∧ σ 76 8 ≤ 40 := hI.1 76 8
  refine qr_aload_n 1 rfl rfl rfl ?_
  refine qr_get 4 rfl rfl rfl (by decide) rfl ?_
  refine qr_iload_n 5 rfl rfl rfl ?_
  refine qr_callN 8 rfl rfl rfl (sf_61_17 (d := d + 4) hI r1) ?_
  have hs3 : 0 ≤ σ 17 6 ∧ σ 17 6 ≤ 32 := hI.1 17 6
  rintro _ _ ⟨rfl, v1, rfl, hv1, hp2⟩
  show qr_W (qe L xs vb) (d + 6) qx_e133 _ (8, _, [.int (qz v1)], qw σ α κ ρ, 0, 0)
  refine qr_if_eq 38 11 rfl rfl rfl (qrg hv1 (by decide) (by decide)) (fun h4 => ?_) (fun h4 => ?_)
  · skip
    refine qr_iconst 39 rfl rfl ?_
    refine qr_retI rfl rfl (by decide) (by decide) ?_
    exact ⟨_, _, rfl, hI, hF0, (-1), rfl, (by decide), (Or.inl ⟨rfl, (fun hc => by rcases hc with ⟨c1, c2, c3, c4, c5, c6, c7, c8, c9, c10, c11⟩; first | omega | (omega)), p7, rfl, rfl, rfl, rfl⟩), p4, p5, (by omega), p3⟩
  · skip
    refine qr_aload_n 12 rfl rfl rfl ?_
    refine qr_get 15 rfl rfl rfl (by decide) rfl ?_
    refine qr_lload_n 16 rfl rfl rfl ?_
    refine qr_callN 19 rfl rfl rfl (sf_88_17x (d := d + 5) hI r2) ?_
    have hs7 : 0 ≤ σ 17 6 ∧ σ 17 6 ≤ 32 := hI.1 17 6
    rintro _ _ ⟨rfl, v5, rfl, hv5, hp6⟩
    show qr_W (qe L xs vb) (d + 6) qx_e133 _ (19, _, [.int (qz v5)], qw σ α κ ρ, 0, 0)
    refine qr_if_eq 38 22 rfl rfl rfl (qrg hv5 (by decide) (by decide)) (fun h8 => ?_) (fun h8 => ?_)
    · skip
      refine qr_iconst 39 rfl rfl ?_
      refine qr_retI rfl rfl (by decide) (by decide) ?_
      exact ⟨_, _, rfl, hI, hF0, (-1), rfl, (by decide), (Or.inl ⟨rfl, (fun hc => by rcases hc with ⟨c1, c2, c3, c4, c5, c6, c7, c8, c9, c10, c11⟩; first | omega | (have hz := hp6; rcases hz with hz | hz; (omega); (exact hz.2 c5))), p7, rfl, rfl, rfl, rfl⟩), p4, p5, (by omega), p3⟩
    · skip
      refine qr_iload 24 rfl rfl rfl ?_
      refine qr_callN 27 rfl rfl rfl (sf_62 (d := d + 5) hI r3) ?_
      rintro _ _ ⟨rfl, v9, rfl, hv9, hp10⟩
      show qr_W (qe L xs vb) (d + 6) qx_e133 _ (27, _, [.int (qz v9)], qw σ α κ ρ, 0, 0)
      refine qr_if_eq 38 30 rfl rfl rfl (qrg hv9 (by decide) (by decide)) (fun h11 => ?_) (fun h11 => ?_)
      · skip
        refine qr_iconst 39 rfl rfl ?_
        refine qr_retI rfl rfl (by decide) (by decide) ?_
        exact ⟨_, _, rfl, hI, hF0, (-1), rfl, (by decide), (Or.inl ⟨rfl, (fun hc => by rcases hc with ⟨c1, c2, c3, c4, c5, c6, c7, c8, c9, c10, c11⟩; first | omega | (have hz := hp6; rcases hz with hz | hz; (omega); (exact hz.2 c5))), p7, rfl, rfl, rfl, rfl⟩), p4, p5, (by omega), p3⟩
      · skip
        refine qr_iload 32 rfl rfl rfl ?_
        refine qr_callN 35 rfl rfl rfl (sf_41 (d := d + 5) hI r4) ?_
        rintro _ _ ⟨rfl, v12, rfl, hv12, hp13⟩
        show qr_W (qe L xs vb) (d + 6) qx_e133 _ (35, _, [.int (qz v12)], qw σ α κ ρ, 0, 0)
        refine qr_if_ne 40 38 rfl rfl rfl (qrg hv12 (by decide) (by decide)) (fun h14 => ?_) (fun h14 => ?_)
        · skip
          refine qr_lload_n 41 rfl rfl rfl ?_
          refine qr_aload_n 42 rfl rfl rfl ?_
          refine qr_get 45 rfl rfl rfl (by decide) rfl ?_
          refine qr_get 48 rfl rfl rfl (by decide) rfl ?_
          refine qr_ldc2 (-1) 51 rfl (by decide) rfl ?_
          refine qr_lxor 52 rfl rfl ?_
          refine qy_canlE (fun v15 hv15 hev15 => ?_)
          refine qr_land 53 rfl rfl ?_
          refine qy_canlE (fun v16 hv16 hev16 => ?_)
          refine qr_lstore _ 55 rfl (by decide) rfl rfl ?_
          have hv17 : v16 = ql_and x2 (ql_xor (σ 17 5) (-1)) := by rw [ql_val hev16 (by omega) (ql_and_r _ _), ql_val hev15 (by omega) (ql_xor_r _ _)]
          refine qr_lload 57 rfl rfl rfl ?_
          refine qr_iload_n 58 rfl rfl rfl ?_
          refine qr_bipush 60 rfl (by decide) rfl ?_
          refine qr_idiv 61 rfl (by omega) (by decide) rfl ?_
          refine qr_callN 64 rfl rfl rfl (sf_50b (d := d + 5) hI hv16 (by omega)) ?_
          rintro _ _ ⟨rfl, v18, rfl, hv18, hp19⟩
          show qr_W (qe L xs vb) (d + 6) qx_e133 _ (64, _, [.int (qz v18)], qw σ α κ ρ, 0, 0)
          refine qr_if_eq 79 67 rfl rfl rfl (qrg hv18 (by decide) (by decide)) (fun h20 => ?_) (fun h20 => ?_)
          · skip
            refine qr_iconst 80 rfl rfl ?_
            refine qr_retI rfl rfl (by decide) (by decide) ?_
            exact ⟨_, _, rfl, hI, hF0, (-1), rfl, (by decide), (Or.inl ⟨rfl, (fun hc => by rcases hc with ⟨c1, c2, c3, c4, c5, c6, c7, c8, c9, c10, c11⟩; rw [← hv17] at c10 c11; first | omega | (have hz := hp6; rcases hz with hz | hz; (omega); (exact hz.2 c5))), p7, rfl, rfl, rfl, rfl⟩), p4, p5, (by omega), p3⟩
          · skip
            refine qr_lload 69 rfl rfl rfl ?_
            refine qr_iload_n 70 rfl rfl rfl ?_
            refine qr_bipush 72 rfl (by decide) rfl ?_
            refine qr_irem 73 rfl (by omega) (by decide) rfl ?_
            refine qr_callN 76 rfl rfl rfl (sf_50b (d := d + 5) hI hv16 (by omega)) ?_
            rintro _ _ ⟨rfl, v21, rfl, hv21, hp22⟩
            show qr_W (qe L xs vb) (d + 6) qx_e133 _ (76, _, [.int (qz v21)], qw σ α κ ρ, 0, 0)
            refine qr_if_ne 81 79 rfl rfl rfl (qrg hv21 (by decide) (by decide)) (fun h23 => ?_) (fun h23 => ?_)
            · skip
              refine qr_aload_n 82 rfl rfl rfl ?_
              refine qr_get 85 rfl rfl rfl (by decide) rfl ?_
              refine qr_iload 87 rfl rfl rfl ?_
              have hs24 : (-2147483648) ≤ σ 58 12 ∧ σ 58 12 ≤ 2147483647 := hI.1 58 12
              refine qr_callN 90 rfl rfl rfl (sf_89_58x (d := d + 5) hI r3 (by omega)) ?_
              rintro _ _ ⟨σ27, rfl, hI28, hG29, hw25, hw26, rfl⟩
              have hF30 : qFr [(17, 5), (58, 10), (58, 11), (58, 12), (70, 2), (70, 3), (70, 5), (70, 6), (76, 7), (76, 8)] [20, 33, 35, 41, 53, 57, 59, 60, 61, 62, 63, 71, 72, 77, 78, 79, 80, 85] σ α σ27 α := qFr_t hF0 hG29 (by decide) (by decide)
              have hs31 : (-2147483648) ≤ σ27 58 11 ∧ σ27 58 11 ≤ 2147483647 := hI28.1 58 11
              have hs32 : (-2147483648) ≤ σ27 58 12 ∧ σ27 58 12 ≤ 2147483647 := hI28.1 58 12
              show qr_W (qe L xs vb) (d + 6) qx_e133 _ (90, _, [], qw σ27 α κ ρ, 0, 0)
              have hH33 := qHq_fr (h := h) hG29 (by decide) (by decide) p7
              refine qr_aload_n 91 rfl rfl rfl ?_
              refine qr_get 94 rfl rfl rfl (by decide) rfl ?_
              refine qr_iload_n 95 rfl rfl rfl ?_
              refine qr_bipush 97 rfl (by decide) rfl ?_
              refine qr_idiv 98 rfl (by omega) (by decide) rfl ?_
              refine qr_iload_n 99 rfl rfl rfl ?_
              refine qr_bipush 101 rfl (by decide) rfl ?_
              refine qr_irem 102 rfl (by omega) (by decide) rfl ?_
              refine qr_lload 104 rfl rfl rfl ?_
              have hs34 : (-9223372036854775808) ≤ σ27 27 6 ∧ σ27 27 6 ≤ 9223372036854775807 := hI28.1 27 6
              have hs35 : 0 ≤ σ27 27 7 ∧ σ27 27 7 ≤ 40 := hI28.1 27 7
              have hs36 : σ27 27 7 = (σ 27 7) := (hG29.1 27 7 (by decide)).trans rfl
              have hs37 : 0 ≤ σ27 34 7 ∧ σ27 34 7 ≤ 60 := hI28.1 34 7
              have hs38 : σ27 34 7 = (σ 34 7) := (hG29.1 34 7 (by decide)).trans rfl
              have hs39 : (-9223372036854775808) ≤ σ27 58 10 ∧ σ27 58 10 ≤ 9223372036854775807 := hI28.1 58 10
              have hs40 : σ27 58 10 = (σ 58 10) := (hG29.1 58 10 (by decide)).trans rfl
              have hs41 : (-2147483648) ≤ σ27 58 11 ∧ σ27 58 11 ≤ 2147483647 := hI28.1 58 11
              have hs42 : (-2147483648) ≤ σ27 58 12 ∧ σ27 58 12 ≤ 2147483647 := hI28.1 58 12
              refine qr_callN 107 rfl rfl rfl (sf_134_70x (d := d + 0) hI28 (by omega) (by omega) hv16 (by omega) (qPW_fr hF30 (by decide) (by decide) p0) (qPW_fr hF30 (by decide) (by decide) p1) (qCaN_v p4 hw26) (qCaN_v p5 hw26) (qZp_fr hF30 (by decide) (by decide) p2) ((hG29.1 58 10 (by decide)).trans p3)) ?_
              rintro _ _ ⟨σ47, α48, rfl, hI49, hG50, hw46, rfl, hx43, hx44, hx45⟩
              have hF51 : qFr [(17, 5), (58, 10), (58, 11), (58, 12), (70, 2), (70, 3), (70, 5), (70, 6), (76, 7), (76, 8)] [20, 33, 35, 41, 53, 57, 59, 60, 61, 62, 63, 71, 72, 77, 78, 79, 80, 85] σ α σ47 α48 := qFr_t hF30 hG50 (by decide) (by decide)
              have hs52 : (-9223372036854775808) ≤ σ47 58 10 ∧ σ47 58 10 ≤ 9223372036854775807 := hI49.1 58 10
              show qr_W (qe L xs vb) (d + 6) qx_e133 _ (107, _, [], qw σ47 α48 κ ρ, 0, 0)
              rw [qFINc_o (σ := σ) (hr := x3) (w := x1) hw25 (hF30.1 17 6 (by decide)) (hF30.1 27 6 (by decide)) (hF30.1 27 7 (by decide)) (hF30.1 34 7 (by decide)) (by omega), hv17] at hx43
              have hH53 := qHq_fr (h := h) hG50 (by decide) (by decide) hH33
              have hm54 := qLs_mem hx43.2.2 (qtell_mem 30 _ (qland_mem (fun x hx => absurd hx (List.not_mem_nil))))
              have hs55 : 0 ≤ σ47 70 2 ∧ σ47 70 2 ≤ 31 := hI49.1 70 2
              have hs56 : (-9223372036854775808) ≤ σ47 70 3 ∧ σ47 70 3 ≤ 9223372036854775807 := hI49.1 70 3
              have hs57 : 0 ≤ σ47 70 5 ∧ σ47 70 5 ≤ 60 := hI49.1 70 5
              have hs58 : σ47 58 12 = σ 58 12 + 1 := (hG50.1 58 12 (by decide)).trans hw26
              as_aux_lemma =>
                refine qr_iload 109 rfl rfl rfl ?_
                refine qr_iconst 110 rfl rfl ?_
                refine qr_icmp_ne 181 113 rfl rfl rfl r4 (by decide) (fun h59 => ?_) (fun h59 => ?_)
                · skip
                  refine qr_aload_n 182 rfl rfl rfl ?_
                  refine qr_get 185 rfl rfl rfl (by decide) rfl ?_
                  refine qr_get 188 rfl rfl rfl (by decide) rfl ?_
                  refine qr_retI rfl rfl (by decide) (by decide) ?_
                  exact ⟨_, _, rfl, hI49, hF51, (σ47 70 2), rfl, (by omega), (Or.inr ⟨⟨by omega, by omega, by omega, by omega, (by have hz := hp6; rcases hz with hz | hz; (exact hz.2); (exact absurd hz.1 (by omega))), by omega, by omega, by omega, by omega, by rw [← hv17]; omega, by rw [← hv17]; omega⟩, (by have hl := hx43.1.1; omega), (qTd_c (r := 70) (rfl) (rfl) (rfl) (rfl) (rfl) hx43), (Or.inl ⟨by omega, (hG50.1 17 5 (by decide)).trans ((hG29.1 17 5 (by decide)).trans rfl), hH53⟩)⟩), (fun c hc => by have hz := hx44.1 c hc; rw [← show α48 61 = (α48 61) from rfl] at hz; have hw : σ47 58 12 = (σ47 58 12) := rfl; have hw2 := hw26; omega), (fun c hc => by have hz := hx45.1 c hc; rw [← show α48 63 = (α48 63) from rfl] at hz; have hw : σ47 58 12 = (σ47 58 12) := rfl; have hw2 := hw26; omega), (by have hw : σ47 58 12 = (σ47 58 12) := rfl; have hw2 := hw26; omega), ((rfl).trans hw46)⟩
                · skip
                  refine qr_aload_n 114 rfl rfl rfl ?_
                  refine qr_get 117 rfl rfl rfl (by decide) rfl ?_
                  refine qr_dup 118 rfl rfl rfl ?_
                  refine qr_get 121 rfl rfl rfl (by decide) rfl ?_
                  refine qy_vl (σ 17 5) ((hG50.1 17 5 (by decide)).trans ((hG29.1 17 5 (by decide)).trans rfl)) ?_
                  refine qr_lload 123 rfl rfl rfl ?_
                  refine qr_aload_n 124 rfl rfl rfl ?_
                  refine qr_get 127 rfl rfl rfl (by decide) rfl ?_
                  refine qr_get 130 rfl rfl rfl (by decide) rfl ?_
                  refine qr_ldc2 (-1) 133 rfl (by decide) rfl ?_
                  refine qr_lxor 134 rfl rfl ?_
                  refine qy_canlE (fun v60 hv60 hev60 => ?_)
                  refine qr_land 135 rfl rfl ?_
                  refine qy_canlE (fun v61 hv61 hev61 => ?_)
                  refine qr_lor 136 rfl rfl ?_
                  refine qy_canlE (fun v62 hv62 hev62 => ?_)
                  refine qr_put 139 rfl (by decide) rfl (Nat.le_of_ble_eq_true rfl) (Nat.le_of_ble_eq_true rfl) (Or.inl rfl) (qr_fitL rfl _) rfl ?_
                  refine qy_wS (qw_s σ47 17 5 v62) rfl (fun σ63 e64 => ?_)
                  have hI65 : qI σ63 α48 κ ρ := by rw [e64]; exact qI_s hI49 17 5 rfl (show (-9223372036854775808) ≤ v62 ∧ v62 ≤ 9223372036854775807 by omega)
                  have hF66 : qFr [(17, 5), (58, 10), (58, 11), (58, 12), (70, 2), (70, 3), (70, 5), (70, 6), (76, 7), (76, 8)] [20, 33, 35, 41, 53, 57, 59, 60, 61, 62, 63, 71, 72, 77, 78, 79, 80, 85] σ α σ63 α48 := by rw [e64]; exact qFr_s hF51 17 5 _ (by decide)
                  have hH67 : qHq σ63 α48 h := qHq_c (fun a k hm => by rw [e64]; exact qw_s_ne (fun hz => by rw [hz.1, hz.2] at hm; revert hm; decide)) (fun _ _ => rfl) hH53
                  refine qr_iconst 140 rfl rfl ?_
                  refine qr_istore _ 142 rfl (by decide) rfl rfl ?_
                  have hL908 : ∀ (n : Nat) (ls : qm_L) (u886 : Int) (σ887 α888 : Nat → Nat → Int), 60 - u886 < (n : Int) → qm_get ls 0 = some (.ref 16) → qm_get ls 8 = some (.int (qz u886)) → (0 ≤ u886 ∧ u886 ≤ 60) → qI σ887 α888 κ ρ → qFr [(17, 5), (58, 10), (58, 11), (58, 12), (70, 2), (70, 3), (70, 5), (70, 6), (76, 7), (76, 8)] [20, 33, 35, 41, 53, 57, 59, 60, 61, 62, 63, 71, 72, 77, 78, 79, 80, 85] σ α σ887 α888 → σ887 17 5 = v62 → σ887 17 6 = (σ 17 6) → σ887 27 7 = (σ 27 7) → σ887 34 7 = (σ 34 7) → σ887 58 10 = (σ47 58 10) → σ887 58 11 = (σ27 58 11) → σ887 58 12 = (σ47 58 12) → σ887 70 2 = (σ47 70 2) → σ887 70 3 = (σ47 70 3) → σ887 70 5 = (σ47 70 5) → α888 61 = (α48 61) → α888 63 = (α48 63) → α888 71 = (α48 71) → α888 72 = (α48 72) → qHq σ887 α888 (qkr (α48 72) (u886 : Int).toNat h) → u886 ≤ σ47 70 5 → qr_W (qe L xs vb) (d + 6) qx_e133 (fun r w' => ∃ σ' α', w' = qw σ' α' κ ρ ∧ qI σ' α' κ ρ ∧ qFr [(17, 5), (58, 10), (58, 11), (58, 12), (70, 2), (70, 3), (70, 5), (70, 6), (76, 7), (76, 8)] [20, 33, 35, 41, 53, 57, 59, 60, 61, 62, 63, 71, 72, 77, 78, 79, 80, 85] σ α σ' α' ∧ ∃ v : Int, r = some (.int (qz v)) ∧ ((-2147483648) ≤ v ∧ v ≤ 2147483647) ∧ ((v = -1 ∧ ¬ (0 ≤ x1 ∧ x1 / 100 < σ 17 6 ∧ x1 % 100 < σ 17 6 ∧ ¬ x1 / 100 = x1 % 100 ∧ qst x2 (σ 17 6) ∧ 0 ≤ x3 ∧ x3 ≤ 2399 ∧ 0 ≤ x4 ∧ x4 ≤ 1 ∧ qbit (ql_and x2 (ql_xor (σ 17 5) (-1))) (x1 / 100) = 1 ∧ qbit (ql_and x2 (ql_xor (σ 17 5) (-1))) (x1 % 100) = 1) ∧ qHq σ' α' h ∧ σ' 70 2 = σ 70 2 ∧ σ' 70 3 = σ 70 3 ∧ α' 71 = α 71 ∧ σ' 17 5 = σ 17 5) ∨ ((0 ≤ x1 ∧ x1 / 100 < σ 17 6 ∧ x1 % 100 < σ 17 6 ∧ ¬ x1 / 100 = x1 % 100 ∧ qst x2 (σ 17 6) ∧ 0 ≤ x3 ∧ x3 ≤ 2399 ∧ 0 ≤ x4 ∧ x4 ≤ 1 ∧ qbit (ql_and x2 (ql_xor (σ 17 5) (-1))) (x1 / 100) = 1 ∧ qbit (ql_and x2 (ql_xor (σ 17 5) (-1))) (x1 % 100) = 1) ∧ v = ((qFINc σ α f0 f1 x3 (ql_and x2 (ql_xor (σ 17 5) (-1))) x1).1.length : Int) ∧ qTd σ' α' 70 (qFINc σ α f0 f1 x3 (ql_and x2 (ql_xor (σ 17 5) (-1))) x1) ∧ ((x4 = 0 ∧ σ' 17 5 = σ 17 5 ∧ qHq σ' α' h) ∨ (x4 = 1 ∧ σ' 17 5 = ql_or (σ 17 5) (ql_and (ql_and x2 (ql_xor (σ 17 5) (-1))) (ql_xor (qFINc σ α f0 f1 x3 (ql_and x2 (ql_xor (σ 17 5) (-1))) x1).2.1 (-1))) ∧ qHq σ' α' (qkn (qFINc σ α f0 f1 x3 (ql_and x2 (ql_xor (σ 17 5) (-1))) x1).2.2.2 h))))) ∧ (∀ c : Nat, c < 496 → α' 61 c ≤ σ' 58 12) ∧ (∀ c : Nat, c < 496 → α' 63 c ≤ σ' 58 12) ∧ (0 ≤ σ' 58 12 ∧ σ' 58 12 ≤ σ 58 12 + 1) ∧ σ' 58 10 = 0) (142, ls, [], qw σ887 α888 κ ρ, 0, 0) := by
                    intro n
                    induction n with
                    | zero => intro ls u886 σ887 α888 hm g884 g885 hf905 hI889 hF890 hk891 hk892 hk893 hk894 hk895 hk896 hk897 hk898 hk899 hk900 hk901 hk902 hk903 hk904 hx906 hx907; exact False.elim (by omega)
                    | succ n ih909 =>
                      intro ls u886 σ887 α888 hm g884 g885 hf905 hI889 hF890 hk891 hk892 hk893 hk894 hk895 hk896 hk897 hk898 hk899 hk900 hk901 hk902 hk903 hk904 hx906 hx907
                      refine qr_iload 144 rfl g885 rfl ?_
                      refine qr_aload_n 145 rfl g884 rfl ?_
                      refine qr_get 148 rfl rfl rfl (by decide) rfl ?_
                      refine qr_get 151 rfl rfl rfl (by decide) rfl ?_
                      refine qy_v (σ47 70 5) ((hk900).trans rfl) ?_
                      refine qr_icmp_ge 181 154 rfl rfl rfl (qrg hf905 (by decide) (by decide)) (by omega) (fun h910 => ?_) (fun h910 => ?_)
                      · skip
                        refine qr_aload_n 182 rfl g884 rfl ?_
                        refine qr_get 185 rfl rfl rfl (by decide) rfl ?_
                        refine qr_get 188 rfl rfl rfl (by decide) rfl ?_
                        refine qy_v (σ47 70 2) ((hk898).trans rfl) ?_
                        refine qr_retI rfl rfl (by decide) (by decide) ?_
                        exact ⟨_, _, rfl, hI889, hF890, (σ47 70 2), rfl, (by omega), (Or.inr ⟨⟨by omega, by omega, by omega, by omega, (by have hz := hp6; rcases hz with hz | hz; (exact hz.2); (exact absurd hz.1 (by omega))), by omega, by omega, by omega, by omega, by rw [← hv17]; omega, by rw [← hv17]; omega⟩, (by have hl := hx43.1.1; omega), (qTd_c (r := 70) (hk903) (hk904) ((hk898).trans rfl) ((hk899).trans rfl) ((hk900).trans rfl) hx43), (Or.inr ⟨by omega, (((hk891).trans rfl).trans (by rw [ql_val hev62 (by omega) (ql_or_r _ _), ql_val hev61 (by omega) (ql_and_r _ _), ql_val hev60 (by omega) (ql_xor_r _ _), hv17, show σ47 70 3 = _ from hx43.2.1])), (by rw [← qkr_ls hx43.2.2, show (σ47 70 5 : Int).toNat = (u886 : Int).toNat by omega]; exact hx906)⟩)⟩), (fun c hc => by have hz := hx44.1 c hc; rw [← show α888 61 = (α48 61) from hk901] at hz; have hw : σ887 58 12 = (σ47 58 12) := (hk897).trans rfl; have hw2 := hw26; omega), (fun c hc => by have hz := hx45.1 c hc; rw [← show α888 63 = (α48 63) from hk902] at hz; have hw : σ887 58 12 = (σ47 58 12) := (hk897).trans rfl; have hw2 := hw26; omega), (by have hw : σ887 58 12 = (σ47 58 12) := (hk897).trans rfl; have hw2 := hw26; omega), (((hk895).trans rfl).trans hw46)⟩
                      · skip
                        refine qr_aload_n 155 rfl g884 rfl ?_
                        refine qr_get 158 rfl rfl rfl (by decide) rfl ?_
                        refine qr_iconst 159 rfl rfl ?_
                        refine qr_aload_n 160 rfl g884 rfl ?_
                        refine qr_get 163 rfl rfl rfl (by decide) rfl ?_
                        refine qr_get 166 rfl rfl rfl (by decide) rfl ?_
                        refine qr_iload 168 rfl g885 rfl ?_
                        refine qr_iaload 169 rfl rfl (by omega) (by decide) rfl ?_
                        refine qr_topI (fun v911 hv911 => ?_)
                        have hs912 : 0 ≤ v911 ∧ v911 ≤ 59 := by rw [hv911]; exact hI889.2.1 72 _ (show _ < 60 by omega)
                        have hrv911 : v911 = (α48 72) (u886 : Int).toNat := hv911.trans (congrFun hk904 _)
                        refine qr_bipush 171 rfl (by decide) rfl ?_
                        have hz := hm54 (u886 : Int).toNat (by omega)
                        rw [← hrv911] at hz
                        have hs913 : 0 ≤ σ887 17 6 ∧ σ887 17 6 ≤ 32 := hI889.1 17 6
                        have hs914 : σ887 17 6 = (σ 17 6) := (hk892).trans rfl
                        have hs915 : 0 ≤ σ887 27 7 ∧ σ887 27 7 ≤ 40 := hI889.1 27 7
                        have hs916 : σ887 27 7 = (σ 27 7) := (hk893).trans rfl
                        have hs917 : 0 ≤ σ887 34 7 ∧ σ887 34 7 ≤ 60 := hI889.1 34 7
                        have hs918 : σ887 34 7 = (σ 34 7) := (hk894).trans rfl
                        refine qr_callN 174 rfl rfl rfl (sf_52_76x (d := d + 3) hI889 (by decide) (qrg hs912 (by decide) (by decide)) (by decide) hx906 (Or.inr (Or.inr (Or.inr ⟨rfl, by omega, by have hw := hF890.1 34 7 (by decide); omega⟩))) (fun z => absurd z (by decide)) (fun _ => rfl)) ?_
                        rintro _ _ ⟨σ922, α923, rfl, hI924, hG925, v919, rfl, hv919, hp920, hx921⟩
                        have hF926 : qFr [(17, 5), (58, 10), (58, 11), (58, 12), (70, 2), (70, 3), (70, 5), (70, 6), (76, 7), (76, 8)] [20, 33, 35, 41, 53, 57, 59, 60, 61, 62, 63, 71, 72, 77, 78, 79, 80, 85] σ α σ922 α923 := qFr_t hF890 hG925 (by decide) (by decide)
                        show qr_W (qe L xs vb) (d + 6) qx_e133 _ (174, _, [.int (qz v919)], qw σ922 α923 κ ρ, 0, 0)
                        refine qr_pop 175 rfl rfl rfl ?_
                        refine qr_iinc _ 178 rfl g885 (by decide) rfl rfl ?_
                        refine qr_goto 142 rfl rfl ?_
                        exact ih909 _ (u886 + 1) σ922 α923 (by omega) (qm_gk g884 (by decide) (Or.inl (by decide))) (qm_ge _ _ _) (by omega) hI924 hF926 ((hG925.1 17 5 (by decide)).trans ((hk891).trans rfl)) ((hG925.1 17 6 (by decide)).trans ((hk892).trans rfl)) ((hG925.1 27 7 (by decide)).trans ((hk893).trans rfl)) ((hG925.1 34 7 (by decide)).trans ((hk894).trans rfl)) ((hG925.1 58 10 (by decide)).trans ((hk895).trans rfl)) ((hG925.1 58 11 (by decide)).trans ((hk896).trans rfl)) ((hG925.1 58 12 (by decide)).trans ((hk897).trans rfl)) ((hG925.1 70 2 (by decide)).trans ((hk898).trans rfl)) ((hG925.1 70 3 (by decide)).trans ((hk899).trans rfl)) ((hG925.1 70 5 (by decide)).trans ((hk900).trans rfl)) ((hG925.2 61 (by decide)).trans hk901) ((hG925.2 63 (by decide)).trans hk902) ((hG925.2 71 (by decide)).trans hk903) ((hG925.2 72 (by decide)).trans hk904) (qkr_s (by omega) hrv911 hx921) (by omega)
                  exact hL908 ((60 - 0 + 1 : Int)).toNat _ 0 σ63 α48 (by omega) rfl rfl (by decide) hI65 hF66 ((congrFun (congrFun e64 17) 5).trans rfl) ((congrFun (congrFun e64 17) 6).trans ((hG50.1 17 6 (by decide)).trans ((hG29.1 17 6 (by decide)).trans rfl))) ((congrFun (congrFun e64 27) 7).trans ((hG50.1 27 7 (by decide)).trans ((hG29.1 27 7 (by decide)).trans rfl))) ((congrFun (congrFun e64 34) 7).trans ((hG50.1 34 7 (by decide)).trans ((hG29.1 34 7 (by decide)).trans rfl))) ((congrFun (congrFun e64 58) 10).trans rfl) ((congrFun (congrFun e64 58) 11).trans ((hG50.1 58 11 (by decide)).trans rfl)) ((congrFun (congrFun e64 58) 12).trans rfl) ((congrFun (congrFun e64 70) 2).trans rfl) ((congrFun (congrFun e64 70) 3).trans rfl) ((congrFun (congrFun e64 70) 5).trans rfl) rfl rfl rfl rfl hH67 (by omega)
            · skip
              refine qr_iconst 80 rfl rfl ?_
              refine qr_retI rfl rfl (by decide) (by decide) ?_
              exact ⟨_, _, rfl, hI, hF0, (-1), rfl, (by decide), (Or.inl ⟨rfl, (fun hc => by rcases hc with ⟨c1, c2, c3, c4, c5, c6, c7, c8, c9, c10, c11⟩; rw [← hv17] at c10 c11; first | omega | (have hz := hp6; rcases hz with hz | hz; (omega); (exact hz.2 c5))), p7, rfl, rfl, rfl, rfl⟩), p4, p5, (by omega), p3⟩
        · skip
          refine qr_iconst 39 rfl rfl ?_
          refine qr_retI rfl rfl (by decide) (by decide) ?_
          exact ⟨_, _, rfl, hI, hF0, (-1), rfl, (by decide), (Or.inl ⟨rfl, (fun hc => by rcases hc with ⟨c1, c2, c3, c4, c5, c6, c7, c8, c9, c10, c11⟩; first | omega | (have hz := hp6; rcases hz with hz | hz; (omega); (exact hz.2 c5))), p7, rfl, rfl, rfl, rfl⟩), p4, p5, (by omega), p3⟩

set_option maxHeartbeats 4000000 in
set_option maxRecDepth 20000 in
/-- OneRoofModel.strike -/
theorem sf_245_86x {L : Nat} {xs : Nat → Int} {vb : Bool} {d : Nat} {σ α : Nat → Nat → Int} {κ : Nat → Option Nat} {ρ : Nat} {x1 : Int} {x2 : Int} {x3 : Int} {x4 : Int} {g0 g1 : (Nat → Int) → Int} (hI : qI σ α κ ρ) (r1 : (-2147483648) ≤ x1 ∧ x1 ≤ 2147483647) (r2 : (-9223372036854775808) ≤ x2 ∧ x2 ≤ 9223372036854775807) (r3 : (-2147483648) ≤ x3 ∧ x3 ≤ 2147483647) (r4 : (-2147483648) ≤ x4 ∧ x4 ≤ 2147483647) (p0 : qPG σ α 0 g0) (p1 : qPG σ α 1 g1) (p2 : qZf σ α) (p3 : qZk σ α) (p4 : σ 86 41 = 0) (p5 : σ 86 29 = 0) : qm_T (qe L xs vb) (d + 50) 245 [.ref 86, .int (qz x1), .long (ql x2), .int (qz x3), .int (qz x4)] (qw σ α κ ρ) (fun r w' => ∃ σ' α', w' = qw σ' α' κ ρ ∧ qI σ' α' κ ρ ∧ qFr [(86, 4), (86, 5), (86, 10), (86, 15), (86, 23), (86, 29), (86, 30), (86, 35), (86, 36), (86, 37), (86, 38), (86, 39), (86, 50), (86, 51)] [87, 88, 89, 90, 96, 109, 115, 116] σ α σ' α' ∧ ∃ v : Int, r = some (.int (qz v)) ∧ ((-2147483648) ≤ v ∧ v ≤ 2147483647) ∧ ((v = -1 ∧ ¬ (0 ≤ x1 ∧ x1 / 100 < σ 86 6 ∧ x1 % 100 < σ 86 6 ∧ ¬ x1 / 100 = x1 % 100 ∧ qst x2 (σ 86 6) ∧ 0 ≤ x3 ∧ x3 ≤ 2399 ∧ 0 ≤ x4 ∧ x4 ≤ 1 ∧ qbit (ql_and x2 (ql_xor (σ 86 10) (-1))) (x1 / 100) = 1 ∧ qbit (ql_and x2 (ql_xor (σ 86 10) (-1))) (x1 % 100) = 1) ∧ α' 87 = α 87 ∧ α' 88 = α 88 ∧ α' 89 = α 89 ∧ α' 90 = α 90 ∧ σ' 86 5 = σ 86 5 ∧ σ' 86 4 = σ 86 4 ∧ σ' 86 10 = σ 86 10 ∧ σ' 86 50 = σ 86 50 ∧ σ' 86 51 = σ 86 51 ∧ α' 115 = α 115 ∧ α' 116 = α 116 ∧ σ' 86 29 = σ 86 29) ∨ ((0 ≤ x1 ∧ x1 / 100 < σ 86 6 ∧ x1 % 100 < σ 86 6 ∧ ¬ x1 / 100 = x1 % 100 ∧ qst x2 (σ 86 6) ∧ 0 ≤ x3 ∧ x3 ≤ 2399 ∧ 0 ≤ x4 ∧ x4 ≤ 1 ∧ qbit (ql_and x2 (ql_xor (σ 86 10) (-1))) (x1 / 100) = 1 ∧ qbit (ql_and x2 (ql_xor (σ 86 10) (-1))) (x1 % 100) = 1) ∧ v = ((qFINm σ α g0 g1 x3 (ql_and x2 (ql_xor (σ 86 10) (-1))) x1).1.length : Int) ∧ qTe σ' α' (qFINm σ α g0 g1 x3 (ql_and x2 (ql_xor (σ 86 10) (-1))) x1) ∧ ((x4 = 0 ∧ σ' 86 10 = σ 86 10 ∧ (α' 87 = α 87 ∧ α' 88 = α 88 ∧ α' 89 = α 89 ∧ α' 90 = α 90 ∧ σ' 86 5 = σ 86 5 ∧ σ' 86 4 = σ 86 4) ∧ σ' 86 29 = 0) ∨ (x4 = 1 ∧ σ' 86 10 = ql_or (σ 86 10) (ql_and (ql_and x2 (ql_xor (σ 86 10) (-1))) (ql_xor (qFINm σ α g0 g1 x3 (ql_and x2 (ql_xor (σ 86 10) (-1))) x1).2.1 (-1))) ∧ ((α' 87, α' 88, α' 89, α' 90, σ' 86 5, σ' 86 4) : qHS) = qkn (qFINm σ α g0 g1 x3 (ql_and x2 (ql_xor (σ 86 10) (-1))) x1).2.2.2 ((α 87, α 88, α 89, α 90, σ 86 5, σ 86 4) : qHS) ∧ σ' 86 29 = 0))))) := by
  refine qr_start (d := d + 49) qv_e245 (Nat.le_of_ble_eq_true rfl) ?_
  show qr_W (qe L xs vb) (d + 49) qx_e245 _ (0, [(0, .ref 86), (1, .int (qz x1)), (2, .long (ql x2)), (4, .int (qz x3)), (5, .int (qz x4))], [], _, 0, 0)
  have hF0 := qFr_rf [(86, 4), (86, 5), (86, 10), (86, 15), (86, 23), (86, 29), (86, 30), (86, 35), (86, 36), (86, 37), (86, 38), (86, 39), (86, 50), (86, 51)] [87, 88, 89, 90, 96, 109, 115, 116] σ α
  have hz86_41 : 0 ≤ σ 86 41 ∧ σ 86 41 ≤ 1 := hI.1 86 41
  have hz86_29 : (-9223372036854775808) ≤ σ 86 29 ∧ σ 86 29 ≤ 9223372036854775807 := hI.1 86 29
  have hz86_4 : 0 ≤ σ 86 4 ∧ σ 86 4 ≤ 40 := hI.1 86 4
  have hz86_5 : 0 ≤ σ 86 5 ∧ σ 86 5 ≤ 40 := hI.1 86 5
  have hz86_6 : 0 ≤ σ 86 6 ∧ σ 86 6 ≤ 32 := hI.1 86 6
  have hz86_10 : (-9223372036854775808) ≤ σ 86 10 ∧ σ 86 10 ≤ 9223372036854775807 := hI.1 86 10
  have hz86_24 : 0 ≤ σ 86 24 ∧ σ 86 24 ≤ 60 := hI.1 86 24
  have hz86_50 : 0 ≤ σ 86 50 ∧ σ 86 50 ≤ 31 := hI.1 86 50
  have hz86_51 : (-9223372036854775808) ≤ σ 86 51 ∧ σ 86 51 ≤ 9223372036854775807 := hI.1 86 51
  refine qr_aload_n 1 rfl rfl rfl ?_
  refine qr_iload_n 2 rfl rfl rfl ?_
  refine qr_callN 5 rfl rfl rfl (sf_191_86 (d := d + 46) hI r1) ?_
  have hs3 : 0 ≤ σ 86 6 ∧ σ 86 6 ≤ 32 := hI.1 86 6
  rintro _ _ ⟨rfl, v1, rfl, hv1, hp2⟩
  show qr_W (qe L xs vb) (d + 49) qx_e245 _ (5, _, [.int (qz v1)], qw σ α κ ρ, 0, 0)
  refine qr_if_eq 35 8 rfl rfl rfl (qrg hv1 (by decide) (by decide)) (fun h4 => ?_) (fun h4 => ?_)
  · skip
    refine qr_iconst 36 rfl rfl ?_
    refine qr_retI rfl rfl (by decide) (by decide) ?_
    exact ⟨_, _, rfl, hI, hF0, (-1), rfl, (by decide), (Or.inl ⟨rfl, (fun hc => by rcases hc with ⟨c1, c2, c3, c4, c5, c6, c7, c8, c9, c10, c11⟩; first | omega | (omega)), rfl, rfl, rfl, rfl, rfl, rfl, rfl, rfl, rfl, rfl, rfl, rfl⟩)⟩
  · skip
    refine qr_aload_n 9 rfl rfl rfl ?_
    refine qr_lload_n 10 rfl rfl rfl ?_
    refine qr_callN 13 rfl rfl rfl (sf_225_86x (d := d + 48) hI r2) ?_
    have hs7 : 0 ≤ σ 86 6 ∧ σ 86 6 ≤ 32 := hI.1 86 6
    rintro _ _ ⟨rfl, v5, rfl, hv5, hp6⟩
    show qr_W (qe L xs vb) (d + 49) qx_e245 _ (13, _, [.int (qz v5)], qw σ α κ ρ, 0, 0)
    refine qr_if_eq 35 16 rfl rfl rfl (qrg hv5 (by decide) (by decide)) (fun h8 => ?_) (fun h8 => ?_)
    · skip
      refine qr_iconst 36 rfl rfl ?_
      refine qr_retI rfl rfl (by decide) (by decide) ?_
      exact ⟨_, _, rfl, hI, hF0, (-1), rfl, (by decide), (Or.inl ⟨rfl, (fun hc => by rcases hc with ⟨c1, c2, c3, c4, c5, c6, c7, c8, c9, c10, c11⟩; first | omega | (have hz := hp6; rcases hz with hz | hz; (omega); (exact hz.2 c5))), rfl, rfl, rfl, rfl, rfl, rfl, rfl, rfl, rfl, rfl, rfl, rfl⟩)⟩
    · skip
      refine qr_iload 18 rfl rfl rfl ?_
      refine qr_callN 21 rfl rfl rfl (sf_192 (d := d + 47) hI r3) ?_
      rintro _ _ ⟨rfl, v9, rfl, hv9, hp10⟩
      show qr_W (qe L xs vb) (d + 49) qx_e245 _ (21, _, [.int (qz v9)], qw σ α κ ρ, 0, 0)
      refine qr_if_eq 35 24 rfl rfl rfl (qrg hv9 (by decide) (by decide)) (fun h11 => ?_) (fun h11 => ?_)
      · skip
        refine qr_iconst 36 rfl rfl ?_
        refine qr_retI rfl rfl (by decide) (by decide) ?_
        exact ⟨_, _, rfl, hI, hF0, (-1), rfl, (by decide), (Or.inl ⟨rfl, (fun hc => by rcases hc with ⟨c1, c2, c3, c4, c5, c6, c7, c8, c9, c10, c11⟩; first | omega | (have hz := hp6; rcases hz with hz | hz; (omega); (exact hz.2 c5))), rfl, rfl, rfl, rfl, rfl, rfl, rfl, rfl, rfl, rfl, rfl, rfl⟩)⟩
      · skip
        refine qr_iload 26 rfl rfl rfl ?_
        refine qr_i2l 27 rfl r4 rfl ?_
        refine qr_lconst 28 rfl rfl ?_
        refine qy_vl 0 rfl ?_
        refine qr_lconst 29 rfl rfl ?_
        refine qy_vl 1 rfl ?_
        refine qr_callN 32 rfl rfl rfl (sf_176 (d := d + 48) hI (qrg r4 (by decide) (by decide)) (by decide) (by decide)) ?_
        rintro _ _ ⟨rfl, v12, rfl, hv12, hp13⟩
        show qr_W (qe L xs vb) (d + 49) qx_e245 _ (32, _, [.int (qz v12)], qw σ α κ ρ, 0, 0)
        refine qr_if_ne 37 35 rfl rfl rfl (qrg hv12 (by decide) (by decide)) (fun h14 => ?_) (fun h14 => ?_)
        · skip
          refine qr_lload_n 38 rfl rfl rfl ?_
          refine qr_aload_n 39 rfl rfl rfl ?_
          refine qr_get 42 rfl rfl rfl (by decide) rfl ?_
          refine qr_ldc2 (-1) 45 rfl (by decide) rfl ?_
          refine qr_lxor 46 rfl rfl ?_
          refine qy_canlE (fun v15 hv15 hev15 => ?_)
          refine qr_land 47 rfl rfl ?_
          refine qy_canlE (fun v16 hv16 hev16 => ?_)
          refine qr_lstore _ 49 rfl (by decide) rfl rfl ?_
          have hv17 : v16 = ql_and x2 (ql_xor (σ 86 10) (-1)) := by rw [ql_val hev16 (by omega) (ql_and_r _ _), ql_val hev15 (by omega) (ql_xor_r _ _)]
          refine qr_lload 51 rfl rfl rfl ?_
          refine qr_iload_n 52 rfl rfl rfl ?_
          refine qr_bipush 54 rfl (by decide) rfl ?_
          refine qr_idiv 55 rfl (by omega) (by decide) rfl ?_
          refine qr_callN 58 rfl rfl rfl (sf_226x (d := d + 48) hI hv16 (by omega)) ?_
          rintro _ _ ⟨rfl, v18, rfl, hv18, hp19⟩
          show qr_W (qe L xs vb) (d + 49) qx_e245 _ (58, _, [.int (qz v18)], qw σ α κ ρ, 0, 0)
          refine qr_if_eq 73 61 rfl rfl rfl (qrg hv18 (by decide) (by decide)) (fun h20 => ?_) (fun h20 => ?_)
          · skip
            refine qr_iconst 74 rfl rfl ?_
            refine qr_retI rfl rfl (by decide) (by decide) ?_
            exact ⟨_, _, rfl, hI, hF0, (-1), rfl, (by decide), (Or.inl ⟨rfl, (fun hc => by rcases hc with ⟨c1, c2, c3, c4, c5, c6, c7, c8, c9, c10, c11⟩; rw [← hv17] at c10 c11; first | omega | (have hz := hp6; rcases hz with hz | hz; (omega); (exact hz.2 c5))), rfl, rfl, rfl, rfl, rfl, rfl, rfl, rfl, rfl, rfl, rfl, rfl⟩)⟩
          · skip
            refine qr_lload 63 rfl rfl rfl ?_
            refine qr_iload_n 64 rfl rfl rfl ?_
            refine qr_bipush 66 rfl (by decide) rfl ?_
            refine qr_irem 67 rfl (by omega) (by decide) rfl ?_
            refine qr_callN 70 rfl rfl rfl (sf_226x (d := d + 48) hI hv16 (by omega)) ?_
            rintro _ _ ⟨rfl, v21, rfl, hv21, hp22⟩
            show qr_W (qe L xs vb) (d + 49) qx_e245 _ (70, _, [.int (qz v21)], qw σ α κ ρ, 0, 0)
            refine qr_if_ne 75 73 rfl rfl rfl (qrg hv21 (by decide) (by decide)) (fun h23 => ?_) (fun h23 => ?_)
            · skip
              refine qr_aload_n 76 rfl rfl rfl ?_
              refine qr_get 79 rfl rfl rfl (by decide) rfl ?_
              refine qr_lstore _ 81 rfl (by decide) rfl rfl ?_
              refine qr_aload_n 82 rfl rfl rfl ?_
              refine qr_iload_n 83 rfl rfl rfl ?_
              refine qr_lload 85 rfl rfl rfl ?_
              refine qr_iload 87 rfl rfl rfl ?_
              refine qr_iload 89 rfl rfl rfl ?_
              refine qr_iconst 90 rfl rfl ?_
              refine qr_icmp_ne 97 93 rfl rfl rfl r4 (by decide) (fun h24 => ?_) (fun h24 => ?_)
              · skip
                refine qr_iconst 98 rfl rfl ?_
                have hs25 : (-9223372036854775808) ≤ σ 86 29 ∧ σ 86 29 ≤ 9223372036854775807 := hI.1 86 29
                have hs26 : 0 ≤ σ 86 41 ∧ σ 86 41 ≤ 1 := hI.1 86 41
                have hs27 : 0 ≤ σ 86 6 ∧ σ 86 6 ≤ 32 := hI.1 86 6
                refine qr_callN 101 rfl rfl rfl (sf_246_86x0 (d := d + 0) hI (by omega) hv16 r3 (by omega) (by omega) p0 p1 p2 p3 p5 p4) ?_
                rintro _ _ ⟨σ30, α31, rfl, hI32, hG33, rfl, hx28, hx29⟩
                have hF34 : qFr [(86, 4), (86, 5), (86, 10), (86, 15), (86, 23), (86, 29), (86, 30), (86, 35), (86, 36), (86, 37), (86, 38), (86, 39), (86, 50), (86, 51)] [87, 88, 89, 90, 96, 109, 115, 116] σ α σ30 α31 := qFr_t hF0 hG33 (by decide) (by decide)
                show qr_W (qe L xs vb) (d + 49) qx_e245 _ (101, _, [], qw σ30 α31 κ ρ, 0, 0)
                rw [hv17, qand_id] at hx28
                rw [hv17, qand_id] at hx29
                have hs35 : 0 ≤ σ30 86 50 ∧ σ30 86 50 ≤ 31 := hI32.1 86 50
                have hs36 : (-9223372036854775808) ≤ σ30 86 51 ∧ σ30 86 51 ≤ 9223372036854775807 := hI32.1 86 51
                have hs37 : (-9223372036854775808) ≤ σ30 86 10 ∧ σ30 86 10 ≤ 9223372036854775807 := hI32.1 86 10
                refine qr_iload 103 rfl rfl rfl ?_
                refine qr_if_ne 117 106 rfl rfl rfl r4 (fun h => False.elim (by omega)) (fun h38 => ?_)
                as_aux_lemma =>
                  refine qr_aload_n 107 rfl rfl rfl ?_
                  refine qr_lload 109 rfl rfl rfl ?_
                  refine qr_put 112 rfl (by decide) rfl (Nat.le_of_ble_eq_true rfl) (Nat.le_of_ble_eq_true rfl) (Or.inl rfl) (qr_fitL rfl _) rfl ?_
                  refine qy_wS (qw_s σ30 86 10 (σ 86 10)) rfl (fun σ39 e40 => ?_)
                  have hI41 : qI σ39 α31 κ ρ := by rw [e40]; exact qI_s hI32 86 10 rfl (show (-9223372036854775808) ≤ (σ 86 10) ∧ (σ 86 10) ≤ 9223372036854775807 by omega)
                  have hF42 : qFr [(86, 4), (86, 5), (86, 10), (86, 15), (86, 23), (86, 29), (86, 30), (86, 35), (86, 36), (86, 37), (86, 38), (86, 39), (86, 50), (86, 51)] [87, 88, 89, 90, 96, 109, 115, 116] σ α σ39 α31 := by rw [e40]; exact qFr_s hF34 86 10 _ (by decide)
                  refine qr_aload_n 113 rfl rfl rfl ?_
                  refine qr_lconst 114 rfl rfl ?_
                  refine qy_vl 0 rfl ?_
                  refine qr_put 117 rfl (by decide) rfl (Nat.le_of_ble_eq_true rfl) (Nat.le_of_ble_eq_true rfl) (Or.inl rfl) (qr_fitL rfl _) rfl ?_
                  refine qy_wS (qw_s σ39 86 29 0) rfl (fun σ43 e44 => ?_)
                  have hI45 : qI σ43 α31 κ ρ := by rw [e44]; exact qI_s hI41 86 29 rfl (show (-9223372036854775808) ≤ 0 ∧ 0 ≤ 9223372036854775807 by omega)
                  have hF46 : qFr [(86, 4), (86, 5), (86, 10), (86, 15), (86, 23), (86, 29), (86, 30), (86, 35), (86, 36), (86, 37), (86, 38), (86, 39), (86, 50), (86, 51)] [87, 88, 89, 90, 96, 109, 115, 116] σ α σ43 α31 := by rw [e44]; exact qFr_s hF42 86 29 _ (by decide)
                  refine qr_aload_n 118 rfl rfl rfl ?_
                  refine qr_get 121 rfl rfl rfl (by decide) rfl ?_
                  refine qy_v (σ30 86 50) ((congrFun (congrFun e44 86) 50).trans ((congrFun (congrFun e40 86) 50).trans rfl)) ?_
                  refine qr_retI rfl rfl (by decide) (by decide) ?_
                  exact ⟨_, _, rfl, hI45, hF46, (σ30 86 50), rfl, (by omega), (Or.inr ⟨⟨by omega, by omega, by omega, by omega, (by have hz := hp6; rcases hz with hz | hz; (exact hz.2); (exact absurd hz.1 (by omega))), by omega, by omega, by omega, by omega, by rw [← hv17]; omega, by rw [← hv17]; omega⟩, (hx28.1.1).symm, (qTe_of (σ := σ30) ((congrFun (congrFun e44 86) 50).trans ((congrFun (congrFun e40 86) 50).trans rfl)) ((congrFun (congrFun e44 86) 51).trans ((congrFun (congrFun e40 86) 51).trans rfl)) hx28 hx29), (Or.inl ⟨by omega, (congrFun (congrFun e44 86) 10).trans ((congrFun (congrFun e40 86) 10).trans rfl), ⟨hG33.2 87 (by decide), hG33.2 88 (by decide), hG33.2 89 (by decide), hG33.2 90 (by decide), ((congrFun (congrFun e44 86) 5).trans (congrFun (congrFun e40 86) 5)).trans (hG33.1 86 5 (by decide)), ((congrFun (congrFun e44 86) 4).trans (congrFun (congrFun e40 86) 4)).trans (hG33.1 86 4 (by decide))⟩, (congrFun (congrFun e44 86) 29).trans rfl⟩)⟩)⟩
              · skip
                refine qr_iconst 94 rfl rfl ?_
                refine qr_goto 98 rfl rfl ?_
                have hs47 : (-9223372036854775808) ≤ σ 86 29 ∧ σ 86 29 ≤ 9223372036854775807 := hI.1 86 29
                have hs48 : 0 ≤ σ 86 41 ∧ σ 86 41 ≤ 1 := hI.1 86 41
                have hs49 : 0 ≤ σ 86 6 ∧ σ 86 6 ≤ 32 := hI.1 86 6
                refine qr_callN 101 rfl rfl rfl (sf_246_86x1 (d := d + 0) hI (by omega) hv16 r3 (by omega) (by omega) p0 p1 p2 p3 p5 p4 (by have hw := qband_c x2 (ql_xor (σ 86 10) (-1)) (x1 % 100); rw [← hv17] at hw; omega)) ?_
                rintro _ _ ⟨σ54, α55, rfl, hI56, hG57, rfl, hx50, hx51, hx52, hx53⟩
                have hF58 : qFr [(86, 4), (86, 5), (86, 10), (86, 15), (86, 23), (86, 29), (86, 30), (86, 35), (86, 36), (86, 37), (86, 38), (86, 39), (86, 50), (86, 51)] [87, 88, 89, 90, 96, 109, 115, 116] σ α σ54 α55 := qFr_t hF0 hG57 (by decide) (by decide)
                show qr_W (qe L xs vb) (d + 49) qx_e245 _ (101, _, [], qw σ54 α55 κ ρ, 0, 0)
                rw [hv17, qand_id] at hx50
                rw [hv17, qand_id] at hx51
                rw [hv17, qand_id] at hx52
                rw [hv17] at hx53
                have hs59 : 0 ≤ σ54 86 50 ∧ σ54 86 50 ≤ 31 := hI56.1 86 50
                have hs60 : (-9223372036854775808) ≤ σ54 86 51 ∧ σ54 86 51 ≤ 9223372036854775807 := hI56.1 86 51
                have hs61 : (-9223372036854775808) ≤ σ54 86 10 ∧ σ54 86 10 ≤ 9223372036854775807 := hI56.1 86 10
                refine qr_iload 103 rfl rfl rfl ?_
                as_aux_lemma =>
                  refine qr_if_ne 117 106 rfl rfl rfl r4 (fun h62 => ?_) (fun h => False.elim (by omega))
                  refine qr_aload_n 118 rfl rfl rfl ?_
                  refine qr_get 121 rfl rfl rfl (by decide) rfl ?_
                  refine qr_retI rfl rfl (by decide) (by decide) ?_
                  exact ⟨_, _, rfl, hI56, hF58, (σ54 86 50), rfl, (by omega), (Or.inr ⟨⟨by omega, by omega, by omega, by omega, (by have hz := hp6; rcases hz with hz | hz; (exact hz.2); (exact absurd hz.1 (by omega))), by omega, by omega, by omega, by omega, by rw [← hv17]; omega, by rw [← hv17]; omega⟩, (hx50.1.1).symm, (qTe_of (σ := σ54) (rfl) (rfl) hx50 hx51), (Or.inr ⟨by omega, (by have hz := qDe_eq (by omega) hx53 hx50.2; rw [qand_id] at hz; exact hz), hx52, (hG57.1 86 29 (by decide)).trans p5⟩)⟩)⟩
            · skip
              refine qr_iconst 74 rfl rfl ?_
              refine qr_retI rfl rfl (by decide) (by decide) ?_
              exact ⟨_, _, rfl, hI, hF0, (-1), rfl, (by decide), (Or.inl ⟨rfl, (fun hc => by rcases hc with ⟨c1, c2, c3, c4, c5, c6, c7, c8, c9, c10, c11⟩; rw [← hv17] at c10 c11; first | omega | (have hz := hp6; rcases hz with hz | hz; (omega); (exact hz.2 c5))), rfl, rfl, rfl, rfl, rfl, rfl, rfl, rfl, rfl, rfl, rfl, rfl⟩)⟩
        · skip
          refine qr_iconst 36 rfl rfl ?_
          refine qr_retI rfl rfl (by decide) (by decide) ?_
          exact ⟨_, _, rfl, hI, hF0, (-1), rfl, (by decide), (Or.inl ⟨rfl, (fun hc => by rcases hc with ⟨c1, c2, c3, c4, c5, c6, c7, c8, c9, c10, c11⟩; first | omega | (have hz := hp6; rcases hz with hz | hz; (omega); (exact hz.2 c5))), rfl, rfl, rfl, rfl, rfl, rfl, rfl, rfl, rfl, rfl, rfl, rfl⟩)⟩
end
section
/-! stamps -/
def qSt (σ α : Nat → Nat → Int) : Prop := (∀ c : Nat, c < 496 → α 61 c ≤ σ 58 12) ∧ ∀ c : Nat, c < 496 → α 63 c ≤ σ 58 12
theorem qSt_c {σ α σ' α' : Nat → Nat → Int} (e : σ' 58 12 = σ 58 12) (e1 : α' 61 = α 61) (e3 : α' 63 = α 63) (h : qSt σ α) : qSt σ' α' := by
  unfold qSt
  rw [e, e1, e3]
  exact h
theorem qSt_fr {S : List (Nat × Nat)} {R : List Nat} {σ α σ' α' : Nat → Nat → Int} (hG : qFr S R σ α σ' α') (hs : [((58 : Nat), (12 : Nat))].all (fun x => !S.contains x) = true) (hr : [61, 63].all (fun x => !R.contains x) = true) (h : qSt σ α) : qSt σ' α' := by
  refine qSt_c (hG.1 58 12 (fun hn => ?_)) (hG.2 61 (fun hn => ?_)) (hG.2 63 (fun hn => ?_)) h
  · have h1 := List.all_eq_true.mp hs (58, 12) (by decide)
    rw [List.contains_iff_mem.mpr hn] at h1
    exact absurd h1 (by decide)
  · have h1 := List.all_eq_true.mp hr 61 (by decide)
    rw [List.contains_iff_mem.mpr hn] at h1
    exact absurd h1 (by decide)
  · have h1 := List.all_eq_true.mp hr 63 (by decide)
    rw [List.contains_iff_mem.mpr hn] at h1
    exact absurd h1 (by decide)
theorem qSt_u1 {σ α α' : Nat → Nat → Int} {c : Nat} {v : Int} (e : α' = qw_r α 61 (qzu (α 61) c v)) (hv : v ≤ σ 58 12) (h : qSt σ α) : qSt σ α' := by
  rw [e]
  refine ⟨fun k hk => ?_, fun k hk => ?_⟩
  · rw [qw_r_eq]
    show (if k = c then v else α 61 k) ≤ _
    split
    · exact hv
    · exact h.1 k hk
  · rw [qw_r_ne (by decide)]
    exact h.2 k hk
theorem qSt_u3 {σ α α' : Nat → Nat → Int} {c : Nat} {v : Int} (e : α' = qw_r α 63 (qzu (α 63) c v)) (hv : v ≤ σ 58 12) (h : qSt σ α) : qSt σ α' := by
  rw [e]
  refine ⟨fun k hk => ?_, fun k hk => ?_⟩
  · rw [qw_r_ne (by decide)]
    exact h.1 k hk
  · rw [qw_r_eq]
    show (if k = c then v else α 63 k) ≤ _
    split
    · exact hv
    · exact h.2 k hk
theorem qSt_o {σ α σ' : Nat → Nat → Int} (e : σ' 58 12 = σ 58 12 + 1) (h : qSt σ α) : qSt σ' α := by
  refine ⟨fun k hk => ?_, fun k hk => ?_⟩
  · have := h.1 k hk
    omega
  · have := h.2 k hk
    omega

set_option maxHeartbeats 4000000 in
set_option maxRecDepth 20000 in
/-- OneRoof$Moment.open -/
theorem sf_89_58s {L : Nat} {xs : Nat → Int} {vb : Bool} {d : Nat} {σ α : Nat → Nat → Int} {κ : Nat → Option Nat} {ρ : Nat} {x1 : Int} (hI : qI σ α κ ρ) (r1 : (-2147483648) ≤ x1 ∧ x1 ≤ 2147483647) (p0 : qSt σ α) (p1 : 0 ≤ σ 58 12 ∧ σ 58 12 ≤ 2000000000) : qm_T (qe L xs vb) (d + 1) 89 [.ref 58, .int (qz x1)] (qw σ α κ ρ) (fun r w' => ∃ σ', w' = qw σ' α κ ρ ∧ qI σ' α κ ρ ∧ qFr [(58, 11), (58, 12)] [] σ α σ' α ∧ σ' 58 12 = σ 58 12 + 1 ∧ r = none ∧ qSt σ' α) := by
  refine qr_start (d := d + 0) qv_e89 (Nat.le_of_ble_eq_true rfl) ?_
  show qr_W (qe L xs vb) (d + 0) qx_e89 _ (0, [(0, .ref 58), (1, .int (qz x1))], [], _, 0, 0)
  have hF0 := qFr_rf [(58, 11), (58, 12)] [] σ α
  have hz58_12 : (-2147483648) ≤ σ 58 12 ∧ σ 58 12 ≤ 2147483647 := hI.1 58 12
  refine qr_aload_n 1 rfl rfl rfl ?_
  refine qr_iload_n 2 rfl rfl rfl ?_
  refine qr_put 5 rfl (by decide) rfl (Nat.le_of_ble_eq_true rfl) (Nat.le_of_ble_eq_true rfl) (Or.inl rfl) (qr_fitI rfl _) rfl ?_
  refine qy_wS (qw_s σ 58 11 x1) rfl (fun σ1 e2 => ?_)
  have hI3 : qI σ1 α κ ρ := by rw [e2]; exact qI_s hI 58 11 rfl (show (-2147483648) ≤ x1 ∧ x1 ≤ 2147483647 by omega)
  have hF4 : qFr [(58, 11), (58, 12)] [] σ α σ1 α := by rw [e2]; exact qFr_s hF0 58 11 _ (by decide)
  refine qr_aload_n 6 rfl rfl rfl ?_
  refine qr_dup 7 rfl rfl rfl ?_
  refine qr_get 10 rfl rfl rfl (by decide) rfl ?_
  refine qy_v (σ 58 12) ((congrFun (congrFun e2 58) 12).trans rfl) ?_
  refine qr_iconst 11 rfl rfl ?_
  refine qr_iadd 12 rfl rfl ?_
  refine qr_put 15 rfl (by decide) rfl (Nat.le_of_ble_eq_true rfl) (Nat.le_of_ble_eq_true rfl) (Or.inl rfl) (qr_fitI rfl _) rfl ?_
  refine qy_wS (qw_s σ1 58 12 ((σ 58 12) + 1)) rfl (fun σ5 e6 => ?_)
  have hI7 : qI σ5 α κ ρ := by rw [e6]; exact qI_s hI3 58 12 rfl (show (-2147483648) ≤ ((σ 58 12) + 1) ∧ ((σ 58 12) + 1) ≤ 2147483647 by omega)
  have hF8 : qFr [(58, 11), (58, 12)] [] σ α σ5 α := by rw [e6]; exact qFr_s hF4 58 12 _ (by decide)
  refine qr_retV rfl rfl (by decide) (by decide) ?_
  exact ⟨_, rfl, hI7, hF8, (by have hw : σ5 58 12 = ((σ 58 12) + 1) := (congrFun (congrFun e6 58) 12).trans rfl; omega), rfl, (qSt_o (by have hw : σ5 58 12 = ((σ 58 12) + 1) := (congrFun (congrFun e6 58) 12).trans rfl; omega) p0)⟩

set_option maxHeartbeats 4000000 in
set_option maxRecDepth 20000 in
/-- OneRoof$Moment.nearKey -/
theorem sf_92_58s {L : Nat} {xs : Nat → Int} {vb : Bool} {d : Nat} {σ α : Nat → Nat → Int} {κ : Nat → Option Nat} {ρ : Nat} {x1 : Int} {x2 : Int} (hI : qI σ α κ ρ) (r1 : 0 ≤ x1 ∧ x1 ≤ 31) (r2 : 0 ≤ x2 ∧ x2 ≤ 31) (p0 : ¬ x1 = x2) (p1 : qSt σ α) : qm_T (qe L xs vb) (d + 3) 92 [.ref 58, .int (qz x1), .int (qz x2)] (qw σ α κ ρ) (fun r w' => ∃ α', w' = qw σ α' κ ρ ∧ qI σ α' κ ρ ∧ qFr [] [60, 61] σ α σ α' ∧ ∃ v : Int, r = some (.int (qz v)) ∧ (0 ≤ v ∧ v ≤ 576) ∧ qSt σ α') := by
  refine qr_start (d := d + 2) qv_e92 (Nat.le_of_ble_eq_true rfl) ?_
  show qr_W (qe L xs vb) (d + 2) qx_e92 _ (0, [(0, .ref 58), (1, .int (qz x1)), (2, .int (qz x2))], [], _, 0, 0)
  have hF0 := qFr_rf [] [60, 61] σ α
  refine qr_iload_n 1 rfl rfl rfl ?_
  refine qr_iload_n 2 rfl rfl rfl ?_
  refine qr_callN 5 rfl rfl rfl (sf_93 (d := d + 0) hI r1 r2 (by omega)) ?_
  rintro _ _ ⟨rfl, v1, rfl, hv1⟩
  show qr_W (qe L xs vb) (d + 2) qx_e92 _ (5, _, [.int (qz v1)], qw σ α κ ρ, 0, 0)
  refine qr_istore_n _ 6 rfl (by decide) rfl rfl ?_
  refine qr_aload_n 7 rfl rfl rfl ?_
  refine qr_get 10 rfl rfl rfl (by decide) rfl ?_
  refine qr_iload_n 11 rfl rfl rfl ?_
  refine qr_iaload 12 rfl rfl (qrgi hv1 (by decide) (by decide)) (by decide) rfl ?_
  refine qr_topI (fun v2 hv2 => ?_)
  have hs3 : (-2147483648) ≤ v2 ∧ v2 ≤ 2147483647 := by rw [hv2]; exact hI.2.1 61 _ (show _ < 496 from qrgt hv1 (by decide) (by decide))
  refine qr_aload_n 13 rfl rfl rfl ?_
  refine qr_get 16 rfl rfl rfl (by decide) rfl ?_
  have hs4 : (-2147483648) ≤ σ 58 12 ∧ σ 58 12 ≤ 2147483647 := hI.1 58 12
  refine qr_icmp_eq 52 19 rfl rfl rfl hs3 hs4 (fun h5 => ?_) (fun h5 => ?_)
  · skip
    refine qr_aload_n 53 rfl rfl rfl ?_
    refine qr_get 56 rfl rfl rfl (by decide) rfl ?_
    refine qr_iload_n 57 rfl rfl rfl ?_
    refine qr_iaload 58 rfl rfl (qrgi hv1 (by decide) (by decide)) (by decide) rfl ?_
    refine qr_topI (fun v6 hv6 => ?_)
    have hs7 : 0 ≤ v6 ∧ v6 ≤ 576 := by rw [hv6]; exact hI.2.1 60 _ (show _ < 496 from qrgt hv1 (by decide) (by decide))
    refine qr_retI rfl rfl (by decide) (by decide) ?_
    exact ⟨_, rfl, hI, hF0, v6, rfl, hs7, p1⟩
  · skip
    refine qr_aload_n 20 rfl rfl rfl ?_
    refine qr_get 23 rfl rfl rfl (by decide) rfl ?_
    refine qr_iload_n 24 rfl rfl rfl ?_
    refine qr_aload_n 25 rfl rfl rfl ?_
    refine qr_get 28 rfl rfl rfl (by decide) rfl ?_
    refine qr_iastore 29 rfl (by decide) rfl (qrgi hv1 (by decide) (by decide)) (by decide) rfl ?_
    refine qy_wA (qw_r α 61 (qzu (α 61) (v1 : Int).toNat (σ 58 12))) rfl (fun α8 e9 => ?_)
    have hI10 : qI σ α8 κ ρ := by rw [e9]; exact qI_r hI 61 _ rfl (show (-2147483648) ≤ (σ 58 12) ∧ (σ 58 12) ≤ 2147483647 by omega)
    have hF11 : qFr [] [60, 61] σ α σ α8 := by rw [e9]; exact qFr_r hF0 61 _ (by decide)
    have hy12 := qSt_u1 (v := (σ 58 12)) e9 (by omega) p1
    refine qr_aload_n 30 rfl rfl rfl ?_
    refine qr_get 33 rfl rfl rfl (by decide) rfl ?_
    refine qr_iload_n 34 rfl rfl rfl ?_
    refine qr_aload_n 35 rfl rfl rfl ?_
    refine qr_get 38 rfl rfl rfl (by decide) rfl ?_
    refine qr_iload_n 39 rfl rfl rfl ?_
    refine qr_iload_n 40 rfl rfl rfl ?_
    refine qr_aload_n 41 rfl rfl rfl ?_
    refine qr_get 44 rfl rfl rfl (by decide) rfl ?_
    have hs13 : (-2147483648) ≤ σ 58 11 ∧ σ 58 11 ≤ 2147483647 := hI10.1 58 11
    refine qr_aload_n 45 rfl rfl rfl ?_
    refine qr_get 48 rfl rfl rfl (by decide) rfl ?_
    refine qr_callN 51 rfl rfl rfl (sf_66_27_23 (d := d + 0) hI10 r1 r2 hs13) ?_
    rintro _ _ ⟨rfl, v14, rfl, hv14⟩
    show qr_W (qe L xs vb) (d + 2) qx_e92 _ (51, _, [.int (qz v14), .int (qz v1), .ref 60], qw σ α8 κ ρ, 0, 0)
    refine qr_iastore 52 rfl (by decide) rfl (qrgi hv1 (by decide) (by decide)) (by decide) rfl ?_
    refine qy_wA (qw_r α8 60 (qzu (α8 60) (v1 : Int).toNat v14)) rfl (fun α15 e16 => ?_)
    have hI17 : qI σ α15 κ ρ := by rw [e16]; exact qI_r hI10 60 _ rfl (show 0 ≤ v14 ∧ v14 ≤ 576 by omega)
    have hF18 : qFr [] [60, 61] σ α σ α15 := by rw [e16]; exact qFr_r hF11 60 _ (by decide)
    have hy19 : qSt σ α15 := qSt_c rfl (by rw [e16]; exact qw_r_ne (by decide)) (by rw [e16]; exact qw_r_ne (by decide)) hy12
    refine qr_aload_n 53 rfl rfl rfl ?_
    refine qr_get 56 rfl rfl rfl (by decide) rfl ?_
    refine qr_iload_n 57 rfl rfl rfl ?_
    refine qr_iaload 58 rfl rfl (qrgi hv1 (by decide) (by decide)) (by decide) rfl ?_
    refine qr_topI (fun v20 hv20 => ?_)
    have hs21 : 0 ≤ v20 ∧ v20 ≤ 576 := by rw [hv20]; exact hI17.2.1 60 _ (show _ < 496 from qrgt hv1 (by decide) (by decide))
    refine qr_retI rfl rfl (by decide) (by decide) ?_
    exact ⟨_, rfl, hI17, hF18, v20, rfl, hs21, hy19⟩

set_option maxHeartbeats 4000000 in
set_option maxRecDepth 20000 in
/-- OneRoof$Moment.held -/
theorem sf_94_58s {L : Nat} {xs : Nat → Int} {vb : Bool} {d : Nat} {σ α : Nat → Nat → Int} {κ : Nat → Option Nat} {ρ : Nat} {x1 : Int} {x2 : Int} (hI : qI σ α κ ρ) (r1 : 0 ≤ x1 ∧ x1 ≤ 31) (r2 : 0 ≤ x2 ∧ x2 ≤ 31) (p0 : ¬ x1 = x2) (p1 : qSt σ α) : qm_T (qe L xs vb) (d + 3) 94 [.ref 58, .int (qz x1), .int (qz x2)] (qw σ α κ ρ) (fun r w' => ∃ α', w' = qw σ α' κ ρ ∧ qI σ α' κ ρ ∧ qFr [] [62, 63] σ α σ α' ∧ ∃ v : Int, r = some (.long (ql v)) ∧ ((-9223372036854775808) ≤ v ∧ v ≤ 9223372036854775807) ∧ qSt σ α') := by
  refine qr_start (d := d + 2) qv_e94 (Nat.le_of_ble_eq_true rfl) ?_
  show qr_W (qe L xs vb) (d + 2) qx_e94 _ (0, [(0, .ref 58), (1, .int (qz x1)), (2, .int (qz x2))], [], _, 0, 0)
  have hF0 := qFr_rf [] [62, 63] σ α
  refine qr_iload_n 1 rfl rfl rfl ?_
  refine qr_iload_n 2 rfl rfl rfl ?_
  refine qr_callN 5 rfl rfl rfl (sf_93 (d := d + 0) hI r1 r2 (by omega)) ?_
  rintro _ _ ⟨rfl, v1, rfl, hv1⟩
  show qr_W (qe L xs vb) (d + 2) qx_e94 _ (5, _, [.int (qz v1)], qw σ α κ ρ, 0, 0)
  refine qr_istore_n _ 6 rfl (by decide) rfl rfl ?_
  refine qr_aload_n 7 rfl rfl rfl ?_
  refine qr_get 10 rfl rfl rfl (by decide) rfl ?_
  refine qr_iload_n 11 rfl rfl rfl ?_
  refine qr_iaload 12 rfl rfl (qrgi hv1 (by decide) (by decide)) (by decide) rfl ?_
  refine qr_topI (fun v2 hv2 => ?_)
  have hs3 : (-2147483648) ≤ v2 ∧ v2 ≤ 2147483647 := by rw [hv2]; exact hI.2.1 63 _ (show _ < 496 from qrgt hv1 (by decide) (by decide))
  refine qr_aload_n 13 rfl rfl rfl ?_
  refine qr_get 16 rfl rfl rfl (by decide) rfl ?_
  have hs4 : (-2147483648) ≤ σ 58 12 ∧ σ 58 12 ≤ 2147483647 := hI.1 58 12
  have hJ24 : ∀ (ls : qm_L) (α20 : Nat → Nat → Int), qm_get ls 0 = some (.ref 58) → qm_get ls 3 = some (.int (qz v1)) → qI σ α20 κ ρ → qFr [] [62, 63] σ α σ α20 → qSt σ α20 → qr_W (qe L xs vb) (d + 2) qx_e94 (fun r w' => ∃ α', w' = qw σ α' κ ρ ∧ qI σ α' κ ρ ∧ qFr [] [62, 63] σ α σ α' ∧ ∃ v : Int, r = some (.long (ql v)) ∧ ((-9223372036854775808) ≤ v ∧ v ≤ 9223372036854775807) ∧ qSt σ α') (52, ls, [], qw σ α20 κ ρ, 0, 0) := by
    intro ls α20 g17 g18 hI21 hF22 hx23
    refine qr_aload_n 53 rfl g17 rfl ?_
    refine qr_get 56 rfl rfl rfl (by decide) rfl ?_
    refine qr_iload_n 57 rfl g18 rfl ?_
    refine qr_laload 58 rfl (by decide) rfl (qrgi hv1 (by decide) (by decide)) (by decide) rfl ?_
    refine qr_topL (fun v25 hv25 => ?_)
    have hs26 : (-9223372036854775808) ≤ v25 ∧ v25 ≤ 9223372036854775807 := by rw [hv25]; exact hI21.2.1 62 _ (show _ < 496 from qrgt hv1 (by decide) (by decide))
    refine qr_aload_n 59 rfl g17 rfl ?_
    refine qr_get 62 rfl rfl rfl (by decide) rfl ?_
    have hs27 : (-9223372036854775808) ≤ σ 58 10 ∧ σ 58 10 ≤ 9223372036854775807 := hI21.1 58 10
    refine qr_ldc2 (-1) 65 rfl (by decide) rfl ?_
    refine qr_lxor 66 rfl rfl ?_
    refine qy_canl (fun v28 hv28 => ?_)
    refine qr_land 67 rfl rfl ?_
    refine qy_canl (fun v29 hv29 => ?_)
    refine qr_retL rfl rfl (by decide) (by decide) ?_
    exact ⟨_, rfl, hI21, hF22, v29, rfl, hv29, hx23⟩
  refine qr_icmp_eq 52 19 rfl rfl rfl hs3 hs4 (fun h30 => ?_) (fun h30 => ?_)
  · skip
    exact hJ24 _ α rfl rfl hI hF0 p1
  · skip
    refine qr_aload_n 20 rfl rfl rfl ?_
    refine qr_get 23 rfl rfl rfl (by decide) rfl ?_
    refine qr_iload_n 24 rfl rfl rfl ?_
    refine qr_aload_n 25 rfl rfl rfl ?_
    refine qr_get 28 rfl rfl rfl (by decide) rfl ?_
    refine qr_iastore 29 rfl (by decide) rfl (qrgi hv1 (by decide) (by decide)) (by decide) rfl ?_
    refine qy_wA (qw_r α 63 (qzu (α 63) (v1 : Int).toNat (σ 58 12))) rfl (fun α31 e32 => ?_)
    have hI33 : qI σ α31 κ ρ := by rw [e32]; exact qI_r hI 63 _ rfl (show (-2147483648) ≤ (σ 58 12) ∧ (σ 58 12) ≤ 2147483647 by omega)
    have hF34 : qFr [] [62, 63] σ α σ α31 := by rw [e32]; exact qFr_r hF0 63 _ (by decide)
    have hy35 := qSt_u3 (v := (σ 58 12)) e32 (by omega) p1
    refine qr_aload_n 30 rfl rfl rfl ?_
    refine qr_get 33 rfl rfl rfl (by decide) rfl ?_
    refine qr_iload_n 34 rfl rfl rfl ?_
    refine qr_aload_n 35 rfl rfl rfl ?_
    refine qr_get 38 rfl rfl rfl (by decide) rfl ?_
    refine qr_iload_n 39 rfl rfl rfl ?_
    refine qr_iload_n 40 rfl rfl rfl ?_
    refine qr_aload_n 41 rfl rfl rfl ?_
    refine qr_get 44 rfl rfl rfl (by decide) rfl ?_
    have hs36 : (-2147483648) ≤ σ 58 11 ∧ σ 58 11 ≤ 2147483647 := hI33.1 58 11
    refine qr_aload_n 45 rfl rfl rfl ?_
    refine qr_get 48 rfl rfl rfl (by decide) rfl ?_
    refine qr_callN 51 rfl rfl rfl (sf_80_34_17 (d := d + 0) hI33 r1 r2 hs36) ?_
    rintro _ _ ⟨rfl, v37, rfl, hv37⟩
    show qr_W (qe L xs vb) (d + 2) qx_e94 _ (51, _, [.long (ql v37), .int (qz v1), .ref 62], qw σ α31 κ ρ, 0, 0)
    refine qr_lastore 52 rfl (by decide) rfl (qrgi hv1 (by decide) (by decide)) (by decide) rfl ?_
    refine qy_wA (qw_r α31 62 (qzu (α31 62) (v1 : Int).toNat v37)) rfl (fun α38 e39 => ?_)
    have hI40 : qI σ α38 κ ρ := by rw [e39]; exact qI_r hI33 62 _ rfl (show (-9223372036854775808) ≤ v37 ∧ v37 ≤ 9223372036854775807 by omega)
    have hF41 : qFr [] [62, 63] σ α σ α38 := by rw [e39]; exact qFr_r hF34 62 _ (by decide)
    have hy42 : qSt σ α38 := qSt_c rfl (by rw [e39]; exact qw_r_ne (by decide)) (by rw [e39]; exact qw_r_ne (by decide)) hy35
    exact hJ24 _ α38 rfl rfl hI40 hF41 hy42

set_option maxHeartbeats 4000000 in
set_option maxRecDepth 20000 in
/-- OneRoof$Moment.weigh -/
theorem sf_90_58s {L : Nat} {xs : Nat → Int} {vb : Bool} {d : Nat} {σ α : Nat → Nat → Int} {κ : Nat → Option Nat} {ρ : Nat} {x1 : Int} {x2 : Int} {x3 : Int} {x4 : Int} {x5 : Int} (hI : qI σ α κ ρ) (r1 : 0 ≤ x1 ∧ x1 ≤ 1) (r2 : 0 ≤ x2 ∧ x2 ≤ 31) (r3 : 0 ≤ x3 ∧ x3 ≤ 31) (r4 : (-1) ≤ x4 ∧ x4 ≤ 31) (r5 : (-9223372036854775808) ≤ x5 ∧ x5 ≤ 9223372036854775807) (p0 : ¬ x2 = x3) (p1 : qSt σ α) : qm_T (qe L xs vb) (d + 4) 90 [.ref 58, .int (qz x1), .int (qz x2), .int (qz x3), .int (qz x4), .long (ql x5)] (qw σ α κ ρ) (fun r w' => ∃ α', w' = qw σ α' κ ρ ∧ qI σ α' κ ρ ∧ qFr [] [53, 57, 59, 60, 61, 62, 63, 85] σ α σ α' ∧ ∃ v : Int, r = some (.int (qz v)) ∧ ((-2147483648) ≤ v ∧ v ≤ 2147483647) ∧ qSt σ α') := by
  refine qr_start (d := d + 3) qv_e90 (Nat.le_of_ble_eq_true rfl) ?_
  show qr_W (qe L xs vb) (d + 3) qx_e90 _ (0, [(0, .ref 58), (1, .int (qz x1)), (2, .int (qz x2)), (3, .int (qz x3)), (4, .int (qz x4)), (5, .long (ql x5))], [], _, 0, 0)
  have hF0 := qFr_rf [] [53, 57, 59, 60, 61, 62, 63, 85] σ α
  refine qr_aload_n 1 rfl rfl rfl ?_
  refine qr_get 4 rfl rfl rfl (by decide) rfl ?_
  refine qr_iload_n 5 rfl rfl rfl ?_
  obtain ⟨c1, hc2, hq3⟩ := qI_k hI (y := x1) (by omega)
  refine qr_aaload 6 rfl (by decide) rfl (by omega) (by decide) hc2 rfl ?_
  rcases hq3 with rfl | rfl | rfl
  · skip
    refine qr_astore _ 8 rfl (by decide) rfl rfl ?_
    refine qr_aload 10 rfl rfl rfl ?_
    refine qr_iconst 11 rfl rfl ?_
    refine qr_callN 14 rfl rfl rfl (sf_91_50 (d := d + 1) hI (by decide)) ?_
    rintro _ _ ⟨rfl, v4, rfl, hv4⟩
    show qr_W (qe L xs vb) (d + 3) qx_e90 _ (14, _, [.int (qz v4)], qw σ α κ ρ, 0, 0)
    have hJ65 : ∀ (ls : qm_L) (α61 : Nat → Nat → Int), qm_get ls 0 = some (.ref 58) → qm_get ls 2 = some (.int (qz x2)) → qm_get ls 3 = some (.int (qz x3)) → qm_get ls 4 = some (.int (qz x4)) → qm_get ls 5 = some (.long (ql x5)) → qm_get ls 7 = some (.ref 50) → qI σ α61 κ ρ → qFr [] [53, 57, 59, 60, 61, 62, 63, 85] σ α σ α61 → qSt σ α61 → qr_W (qe L xs vb) (d + 3) qx_e90 (fun r w' => ∃ α', w' = qw σ α' κ ρ ∧ qI σ α' κ ρ ∧ qFr [] [53, 57, 59, 60, 61, 62, 63, 85] σ α σ α' ∧ ∃ v : Int, r = some (.int (qz v)) ∧ ((-2147483648) ≤ v ∧ v ≤ 2147483647) ∧ qSt σ α') (63, ls, [], qw σ α61 κ ρ, 0, 0) := by
      intro ls α61 g54 g55 g56 g57 g58 g59 hI62 hF63 hx64
      refine qr_aload 65 rfl g59 rfl ?_
      refine qr_iconst 66 rfl rfl ?_
      refine qr_callN 69 rfl rfl rfl (sf_91_50 (d := d + 1) hI62 (by decide)) ?_
      rintro _ _ ⟨rfl, v66, rfl, hv66⟩
      show qr_W (qe L xs vb) (d + 3) qx_e90 _ (69, _, [.int (qz v66)], qw σ α61 κ ρ, 0, 0)
      have hJ90 : ∀ (ls : qm_L) (α86 : Nat → Nat → Int), qm_get ls 0 = some (.ref 58) → qm_get ls 2 = some (.int (qz x2)) → qm_get ls 3 = some (.int (qz x3)) → qm_get ls 4 = some (.int (qz x4)) → qm_get ls 5 = some (.long (ql x5)) → qm_get ls 7 = some (.ref 50) → qI σ α86 κ ρ → qFr [] [53, 57, 59, 60, 61, 62, 63, 85] σ α σ α86 → qSt σ α86 → qr_W (qe L xs vb) (d + 3) qx_e90 (fun r w' => ∃ α', w' = qw σ α' κ ρ ∧ qI σ α' κ ρ ∧ qFr [] [53, 57, 59, 60, 61, 62, 63, 85] σ α σ α' ∧ ∃ v : Int, r = some (.int (qz v)) ∧ ((-2147483648) ≤ v ∧ v ≤ 2147483647) ∧ qSt σ α') (87, ls, [], qw σ α86 κ ρ, 0, 0) := by
        intro ls α86 g79 g80 g81 g82 g83 g84 hI87 hF88 hx89
        refine qr_aload 89 rfl g84 rfl ?_
        refine qr_bipush 91 rfl (by decide) rfl ?_
        refine qr_callN 94 rfl rfl rfl (sf_91_50 (d := d + 1) hI87 (by decide)) ?_
        rintro _ _ ⟨rfl, v91, rfl, hv91⟩
        show qr_W (qe L xs vb) (d + 3) qx_e90 _ (94, _, [.int (qz v91)], qw σ α86 κ ρ, 0, 0)
        have hJ108 : ∀ (ls : qm_L) (α104 : Nat → Nat → Int), qm_get ls 0 = some (.ref 58) → qm_get ls 2 = some (.int (qz x2)) → qm_get ls 3 = some (.int (qz x3)) → qm_get ls 4 = some (.int (qz x4)) → qm_get ls 7 = some (.ref 50) → qI σ α104 κ ρ → qFr [] [53, 57, 59, 60, 61, 62, 63, 85] σ α σ α104 → qSt σ α104 → qr_W (qe L xs vb) (d + 3) qx_e90 (fun r w' => ∃ α', w' = qw σ α' κ ρ ∧ qI σ α' κ ρ ∧ qFr [] [53, 57, 59, 60, 61, 62, 63, 85] σ α σ α' ∧ ∃ v : Int, r = some (.int (qz v)) ∧ ((-2147483648) ≤ v ∧ v ≤ 2147483647) ∧ qSt σ α') (114, ls, [], qw σ α104 κ ρ, 0, 0) := by
          intro ls α104 g98 g99 g100 g101 g102 hI105 hF106 hx107
          refine qr_aload_n 115 rfl g98 rfl ?_
          refine qr_get 118 rfl rfl rfl (by decide) rfl ?_
          refine qr_iconst 119 rfl rfl ?_
          refine qr_aload_n 120 rfl g98 rfl ?_
          refine qr_get 123 rfl rfl rfl (by decide) rfl ?_
          refine qr_get 126 rfl rfl rfl (by decide) rfl ?_
          refine qr_iload_n 127 rfl g99 rfl ?_
          refine qr_iaload 128 rfl rfl (qrgi r2 (by decide) (by decide)) (by decide) rfl ?_
          refine qr_topI (fun v109 hv109 => ?_)
          have hs110 : (-2147483648) ≤ v109 ∧ v109 ≤ 2147483647 := by rw [hv109]; exact hI105.2.1 20 _ (show _ < 32 from qrgt r2 (by decide) (by decide))
          refine qr_iastore 129 rfl (by decide) rfl (by decide) (by decide) rfl ?_
          refine qy_wA (qw_r α104 59 (qzu (α104 59) (3 : Int).toNat v109)) rfl (fun α111 e112 => ?_)
          have hI113 : qI σ α111 κ ρ := by rw [e112]; exact qI_r hI105 59 _ rfl (show (-2147483648) ≤ v109 ∧ v109 ≤ 2147483647 by omega)
          have hF114 : qFr [] [53, 57, 59, 60, 61, 62, 63, 85] σ α σ α111 := by rw [e112]; exact qFr_r hF106 59 _ (by decide)
          have hy115 : qSt σ α111 := qSt_c rfl (by rw [e112]; exact qw_r_ne (by decide)) (by rw [e112]; exact qw_r_ne (by decide)) hx107
          refine qr_aload_n 130 rfl g98 rfl ?_
          refine qr_get 133 rfl rfl rfl (by decide) rfl ?_
          refine qr_iconst 134 rfl rfl ?_
          refine qr_aload_n 135 rfl g98 rfl ?_
          refine qr_get 138 rfl rfl rfl (by decide) rfl ?_
          refine qr_get 141 rfl rfl rfl (by decide) rfl ?_
          refine qr_iload_n 142 rfl g100 rfl ?_
          refine qr_iaload 143 rfl rfl (qrgi r3 (by decide) (by decide)) (by decide) rfl ?_
          refine qr_topI (fun v116 hv116 => ?_)
          have hs117 : (-2147483648) ≤ v116 ∧ v116 ≤ 2147483647 := by rw [hv116]; exact hI113.2.1 20 _ (show _ < 32 from qrgt r3 (by decide) (by decide))
          refine qr_iastore 144 rfl (by decide) rfl (by decide) (by decide) rfl ?_
          refine qy_wA (qw_r α111 59 (qzu (α111 59) (4 : Int).toNat v116)) rfl (fun α118 e119 => ?_)
          have hI120 : qI σ α118 κ ρ := by rw [e119]; exact qI_r hI113 59 _ rfl (show (-2147483648) ≤ v116 ∧ v116 ≤ 2147483647 by omega)
          have hF121 : qFr [] [53, 57, 59, 60, 61, 62, 63, 85] σ α σ α118 := by rw [e119]; exact qFr_r hF114 59 _ (by decide)
          have hy122 : qSt σ α118 := qSt_c rfl (by rw [e119]; exact qw_r_ne (by decide)) (by rw [e119]; exact qw_r_ne (by decide)) hy115
          refine qr_aload_n 145 rfl g98 rfl ?_
          refine qr_get 148 rfl rfl rfl (by decide) rfl ?_
          refine qr_iconst 149 rfl rfl ?_
          refine qr_aload_n 150 rfl g98 rfl ?_
          refine qr_get 153 rfl rfl rfl (by decide) rfl ?_
          refine qr_get 156 rfl rfl rfl (by decide) rfl ?_
          refine qr_iload_n 157 rfl g99 rfl ?_
          refine qr_laload 158 rfl (by decide) rfl (qrgi r2 (by decide) (by decide)) (by decide) rfl ?_
          refine qr_topL (fun v123 hv123 => ?_)
          have hs124 : (-9223372036854775808) ≤ v123 ∧ v123 ≤ 9223372036854775807 := by rw [hv123]; exact hI120.2.1 22 _ (show _ < 32 from qrgt r2 (by decide) (by decide))
          refine qr_iload_n 159 rfl g100 rfl ?_
          refine qr_callN 162 rfl rfl rfl (sf_50 (d := d + 2) hI120 hs124 (qrg r3 (by decide) (by decide))) ?_
          rintro _ _ ⟨rfl, v125, rfl, hv125⟩
          show qr_W (qe L xs vb) (d + 3) qx_e90 _ (162, _, [.int (qz v125), .int (qz 5), .ref 59], qw σ α118 κ ρ, 0, 0)
          have hJ133 : ∀ (ls : qm_L) (u131 : Int), qm_get ls 0 = some (.ref 58) → qm_get ls 2 = some (.int (qz x2)) → qm_get ls 3 = some (.int (qz x3)) → qm_get ls 4 = some (.int (qz x4)) → qm_get ls 7 = some (.ref 50) → (0 ≤ u131 ∧ u131 ≤ 1) → qr_W (qe L xs vb) (d + 3) qx_e90 (fun r w' => ∃ α', w' = qw σ α' κ ρ ∧ qI σ α' κ ρ ∧ qFr [] [53, 57, 59, 60, 61, 62, 63, 85] σ α σ α' ∧ ∃ v : Int, r = some (.int (qz v)) ∧ ((-2147483648) ≤ v ∧ v ≤ 2147483647) ∧ qSt σ α') (170, ls, [.int (qz u131), .int (qz 5), .ref 59], qw σ α118 κ ρ, 0, 0) := by
            intro ls u131 g126 g127 g128 g129 g130 hf132
            refine qr_iastore 171 rfl (by decide) rfl (by decide) (by decide) rfl ?_
            refine qy_wA (qw_r α118 59 (qzu (α118 59) (5 : Int).toNat u131)) rfl (fun α134 e135 => ?_)
            have hI136 : qI σ α134 κ ρ := by rw [e135]; exact qI_r hI120 59 _ rfl (show (-2147483648) ≤ u131 ∧ u131 ≤ 2147483647 by omega)
            have hF137 : qFr [] [53, 57, 59, 60, 61, 62, 63, 85] σ α σ α134 := by rw [e135]; exact qFr_r hF121 59 _ (by decide)
            have hy138 : qSt σ α134 := qSt_c rfl (by rw [e135]; exact qw_r_ne (by decide)) (by rw [e135]; exact qw_r_ne (by decide)) hy122
            refine qr_aload_n 172 rfl g126 rfl ?_
            refine qr_get 175 rfl rfl rfl (by decide) rfl ?_
            refine qr_bipush 177 rfl (by decide) rfl ?_
            refine qr_aload_n 178 rfl g126 rfl ?_
            refine qr_get 181 rfl rfl rfl (by decide) rfl ?_
            refine qr_iload_n 182 rfl g127 rfl ?_
            refine qr_iload_n 183 rfl g128 rfl ?_
            refine qr_callN 186 rfl rfl rfl (sf_57_23 (d := d + 2) hI136 r2 r3) ?_
            rintro _ _ ⟨rfl, v139, rfl, hv139⟩
            show qr_W (qe L xs vb) (d + 3) qx_e90 _ (186, _, [.int (qz v139), .int (qz 6), .ref 59], qw σ α134 κ ρ, 0, 0)
            refine qr_bipush 188 rfl (by decide) rfl ?_
            refine qr_callN 191 rfl rfl rfl (sf_12 (d := d + 2) hI136 (qrg hv139 (by decide) (by decide)) (by decide)) ?_
            rintro _ _ ⟨rfl, v140, rfl, hv140, hp141⟩
            show qr_W (qe L xs vb) (d + 3) qx_e90 _ (191, _, [.int (qz v140), .int (qz 6), .ref 59], qw σ α134 κ ρ, 0, 0)
            refine qr_iastore 192 rfl (by decide) rfl (by decide) (by decide) rfl ?_
            refine qy_wA (qw_r α134 59 (qzu (α134 59) (6 : Int).toNat v140)) rfl (fun α142 e143 => ?_)
            have hI144 : qI σ α142 κ ρ := by rw [e143]; exact qI_r hI136 59 _ rfl (show (-2147483648) ≤ v140 ∧ v140 ≤ 2147483647 by omega)
            have hF145 : qFr [] [53, 57, 59, 60, 61, 62, 63, 85] σ α σ α142 := by rw [e143]; exact qFr_r hF137 59 _ (by decide)
            have hy146 : qSt σ α142 := qSt_c rfl (by rw [e143]; exact qw_r_ne (by decide)) (by rw [e143]; exact qw_r_ne (by decide)) hy138
            refine qr_aload_n 193 rfl g126 rfl ?_
            refine qr_get 196 rfl rfl rfl (by decide) rfl ?_
            refine qr_bipush 198 rfl (by decide) rfl ?_
            refine qr_iload 200 rfl g129 rfl ?_
            refine qr_iconst 201 rfl rfl ?_
            have hJ154 : ∀ (ls : qm_L) (u152 : Int), qm_get ls 0 = some (.ref 58) → qm_get ls 7 = some (.ref 50) → (0 ≤ u152 ∧ u152 ≤ 9) → qr_W (qe L xs vb) (d + 3) qx_e90 (fun r w' => ∃ α', w' = qw σ α' κ ρ ∧ qI σ α' κ ρ ∧ qFr [] [53, 57, 59, 60, 61, 62, 63, 85] σ α σ α' ∧ ∃ v : Int, r = some (.int (qz v)) ∧ ((-2147483648) ≤ v ∧ v ≤ 2147483647) ∧ qSt σ α') (223, ls, [.int (qz u152), .int (qz 8), .ref 59], qw σ α142 κ ρ, 0, 0) := by
              intro ls u152 g150 g151 hf153
              refine qr_iastore 224 rfl (by decide) rfl (by decide) (by decide) rfl ?_
              refine qy_wA (qw_r α142 59 (qzu (α142 59) (8 : Int).toNat u152)) rfl (fun α155 e156 => ?_)
              have hI157 : qI σ α155 κ ρ := by rw [e156]; exact qI_r hI144 59 _ rfl (show (-2147483648) ≤ u152 ∧ u152 ≤ 2147483647 by omega)
              have hF158 : qFr [] [53, 57, 59, 60, 61, 62, 63, 85] σ α σ α155 := by rw [e156]; exact qFr_r hF145 59 _ (by decide)
              have hy159 : qSt σ α155 := qSt_c rfl (by rw [e156]; exact qw_r_ne (by decide)) (by rw [e156]; exact qw_r_ne (by decide)) hy146
              refine qr_aload 226 rfl g151 rfl ?_
              refine qr_aload_n 227 rfl g150 rfl ?_
              refine qr_get 230 rfl rfl rfl (by decide) rfl ?_
              refine qr_callN 233 rfl rfl rfl (sf_97_50_59 (d := d + 1) hI157 ) ?_
              rintro _ _ ⟨α161, rfl, hI162, hG163, v160, rfl, hv160⟩
              have hF164 : qFr [] [53, 57, 59, 60, 61, 62, 63, 85] σ α σ α161 := qFr_t hF158 hG163 (by decide) (by decide)
              have hy165 := qSt_fr hG163 (by decide) (by decide) hy159
              show qr_W (qe L xs vb) (d + 3) qx_e90 _ (233, _, [.int (qz v160)], qw σ α161 κ ρ, 0, 0)
              refine qr_retI rfl rfl (by decide) (by decide) ?_
              exact ⟨_, rfl, hI162, hF164, v160, rfl, hv160, hy165⟩
            refine qr_icmp_ne 208 204 rfl rfl rfl (qrg r4 (by decide) (by decide)) (by decide) (fun h166 => ?_) (fun h166 => ?_)
            · skip
              refine qr_aload_n 209 rfl g126 rfl ?_
              refine qr_get 212 rfl rfl rfl (by decide) rfl ?_
              refine qr_iload_n 213 rfl g127 rfl ?_
              refine qr_iload 215 rfl g129 rfl ?_
              refine qr_callN 218 rfl rfl rfl (sf_57_23 (d := d + 2) hI144 r2 (by omega)) ?_
              rintro _ _ ⟨rfl, v167, rfl, hv167⟩
              show qr_W (qe L xs vb) (d + 3) qx_e90 _ (218, _, [.int (qz v167), .int (qz 8), .ref 59], qw σ α142 κ ρ, 0, 0)
              refine qr_bipush 220 rfl (by decide) rfl ?_
              refine qr_callN 223 rfl rfl rfl (sf_12 (d := d + 2) hI144 (qrg hv167 (by decide) (by decide)) (by decide)) ?_
              rintro _ _ ⟨rfl, v168, rfl, hv168, hp169⟩
              show qr_W (qe L xs vb) (d + 3) qx_e90 _ (223, _, [.int (qz v168), .int (qz 8), .ref 59], qw σ α142 κ ρ, 0, 0)
              exact hJ154 _ v168 g126 g130 (by omega)
            · skip
              refine qr_iconst 205 rfl rfl ?_
              refine qr_goto 223 rfl rfl ?_
              exact hJ154 _ 0 g126 g130 (by decide)
          refine qr_if_eq 169 165 rfl rfl rfl (qrg hv125 (by decide) (by decide)) (fun h170 => ?_) (fun h170 => ?_)
          · skip
            refine qr_iconst 170 rfl rfl ?_
            exact hJ133 _ 0 g98 g99 g100 g101 g102 (by decide)
          · skip
            refine qr_iconst 166 rfl rfl ?_
            refine qr_goto 170 rfl rfl ?_
            exact hJ133 _ 1 g98 g99 g100 g101 g102 (by decide)
        refine qr_if_eq 114 97 rfl rfl rfl (qrg hv91 (by decide) (by decide)) (fun h171 => ?_) (fun h171 => ?_)
        · skip
          exact hJ108 _ α86 g79 g80 g81 g82 g84 hI87 hF88 hx89
        · skip
          refine qr_aload_n 98 rfl g79 rfl ?_
          refine qr_get 101 rfl rfl rfl (by decide) rfl ?_
          refine qr_bipush 103 rfl (by decide) rfl ?_
          refine qr_aload_n 104 rfl g79 rfl ?_
          refine qr_get 107 rfl rfl rfl (by decide) rfl ?_
          refine qr_iload_n 108 rfl g80 rfl ?_
          refine qr_lload 110 rfl g83 rfl ?_
          refine qr_callN 113 rfl rfl rfl (sf_95_17 (d := d + 1) hI87 r2 r5) ?_
          rintro _ _ ⟨rfl, v172, rfl, hv172⟩
          show qr_W (qe L xs vb) (d + 3) qx_e90 _ (113, _, [.int (qz v172), .int (qz 7), .ref 59], qw σ α86 κ ρ, 0, 0)
          refine qr_iastore 114 rfl (by decide) rfl (by decide) (by decide) rfl ?_
          refine qy_wA (qw_r α86 59 (qzu (α86 59) (7 : Int).toNat v172)) rfl (fun α173 e174 => ?_)
          have hI175 : qI σ α173 κ ρ := by rw [e174]; exact qI_r hI87 59 _ rfl (show (-2147483648) ≤ v172 ∧ v172 ≤ 2147483647 by omega)
          have hF176 : qFr [] [53, 57, 59, 60, 61, 62, 63, 85] σ α σ α173 := by rw [e174]; exact qFr_r hF88 59 _ (by decide)
          have hy177 : qSt σ α173 := qSt_c rfl (by rw [e174]; exact qw_r_ne (by decide)) (by rw [e174]; exact qw_r_ne (by decide)) hx89
          exact hJ108 _ α173 g79 g80 g81 g82 g84 hI175 hF176 hy177
      refine qr_if_eq 87 72 rfl rfl rfl (qrg hv66 (by decide) (by decide)) (fun h178 => ?_) (fun h178 => ?_)
      · skip
        exact hJ90 _ α61 g54 g55 g56 g57 g58 g59 hI62 hF63 hx64
      · skip
        refine qr_aload_n 73 rfl g54 rfl ?_
        refine qr_get 76 rfl rfl rfl (by decide) rfl ?_
        refine qr_iconst 77 rfl rfl ?_
        refine qr_aload_n 78 rfl g54 rfl ?_
        refine qr_iload_n 79 rfl g55 rfl ?_
        refine qr_iload_n 80 rfl g56 rfl ?_
        refine qr_callN 83 rfl rfl rfl (sf_94_58s (d := d + 0) hI62 r2 r3 (by omega) hx64) ?_
        rintro _ _ ⟨α181, rfl, hI182, hG183, v179, rfl, hv179, hx180⟩
        have hF184 : qFr [] [53, 57, 59, 60, 61, 62, 63, 85] σ α σ α181 := qFr_t hF63 hG183 (by decide) (by decide)
        show qr_W (qe L xs vb) (d + 3) qx_e90 _ (83, _, [.long (ql v179), .int (qz 2), .ref 59], qw σ α181 κ ρ, 0, 0)
        refine qr_callN 86 rfl rfl rfl (sf_74 (d := d + 2) hI182 hv179) ?_
        rintro _ _ ⟨rfl, v185, rfl, hv185⟩
        show qr_W (qe L xs vb) (d + 3) qx_e90 _ (86, _, [.int (qz v185), .int (qz 2), .ref 59], qw σ α181 κ ρ, 0, 0)
        refine qr_iastore 87 rfl (by decide) rfl (by decide) (by decide) rfl ?_
        refine qy_wA (qw_r α181 59 (qzu (α181 59) (2 : Int).toNat v185)) rfl (fun α186 e187 => ?_)
        have hI188 : qI σ α186 κ ρ := by rw [e187]; exact qI_r hI182 59 _ rfl (show (-2147483648) ≤ v185 ∧ v185 ≤ 2147483647 by omega)
        have hF189 : qFr [] [53, 57, 59, 60, 61, 62, 63, 85] σ α σ α186 := by rw [e187]; exact qFr_r hF184 59 _ (by decide)
        have hy190 : qSt σ α186 := qSt_c rfl (by rw [e187]; exact qw_r_ne (by decide)) (by rw [e187]; exact qw_r_ne (by decide)) hx180
        exact hJ90 _ α186 g54 g55 g56 g57 g58 g59 hI188 hF189 hy190
    refine qr_if_ne 26 17 rfl rfl rfl (qrg hv4 (by decide) (by decide)) (fun h191 => ?_) (fun h191 => ?_)
    · skip
      refine qr_aload_n 27 rfl rfl rfl ?_
      refine qr_iload_n 28 rfl rfl rfl ?_
      refine qr_iload_n 29 rfl rfl rfl ?_
      refine qr_callN 32 rfl rfl rfl (sf_92_58s (d := d + 0) hI r2 r3 (by omega) p1) ?_
      rintro _ _ ⟨α194, rfl, hI195, hG196, v192, rfl, hv192, hx193⟩
      have hF197 : qFr [] [53, 57, 59, 60, 61, 62, 63, 85] σ α σ α194 := qFr_t hF0 hG196 (by decide) (by decide)
      show qr_W (qe L xs vb) (d + 3) qx_e90 _ (32, _, [.int (qz v192)], qw σ α194 κ ρ, 0, 0)
      refine qr_bipush 34 rfl (by decide) rfl ?_
      refine qr_idiv 35 rfl (qrg hv192 (by decide) (by decide)) (by decide) rfl ?_
      refine qr_istore _ 37 rfl (by decide) rfl rfl ?_
      refine qr_aload_n 38 rfl rfl rfl ?_
      refine qr_get 41 rfl rfl rfl (by decide) rfl ?_
      refine qr_iconst 42 rfl rfl ?_
      refine qr_iload 44 rfl rfl rfl ?_
      refine qr_bipush 46 rfl (by decide) rfl ?_
      have hJ207 : ∀ (ls : qm_L) (u205 : Int), qm_get ls 0 = some (.ref 58) → qm_get ls 2 = some (.int (qz x2)) → qm_get ls 3 = some (.int (qz x3)) → qm_get ls 4 = some (.int (qz x4)) → qm_get ls 5 = some (.long (ql x5)) → qm_get ls 7 = some (.ref 50) → qm_get ls 8 = some (.int (qz (v192 / 64))) → (0 ≤ u205 ∧ u205 ≤ 1) → qr_W (qe L xs vb) (d + 3) qx_e90 (fun r w' => ∃ α', w' = qw σ α' κ ρ ∧ qI σ α' κ ρ ∧ qFr [] [53, 57, 59, 60, 61, 62, 63, 85] σ α σ α' ∧ ∃ v : Int, r = some (.int (qz v)) ∧ ((-2147483648) ≤ v ∧ v ≤ 2147483647) ∧ qSt σ α') (54, ls, [.int (qz u205), .int (qz 0), .ref 59], qw σ α194 κ ρ, 0, 0) := by
        intro ls u205 g198 g199 g200 g201 g202 g203 g204 hf206
        refine qr_iastore 55 rfl (by decide) rfl (by decide) (by decide) rfl ?_
        refine qy_wA (qw_r α194 59 (qzu (α194 59) (0 : Int).toNat u205)) rfl (fun α208 e209 => ?_)
        have hI210 : qI σ α208 κ ρ := by rw [e209]; exact qI_r hI195 59 _ rfl (show (-2147483648) ≤ u205 ∧ u205 ≤ 2147483647 by omega)
        have hF211 : qFr [] [53, 57, 59, 60, 61, 62, 63, 85] σ α σ α208 := by rw [e209]; exact qFr_r hF197 59 _ (by decide)
        have hy212 : qSt σ α208 := qSt_c rfl (by rw [e209]; exact qw_r_ne (by decide)) (by rw [e209]; exact qw_r_ne (by decide)) hx193
        refine qr_aload_n 56 rfl g198 rfl ?_
        refine qr_get 59 rfl rfl rfl (by decide) rfl ?_
        refine qr_iconst 60 rfl rfl ?_
        refine qr_iload 62 rfl g204 rfl ?_
        refine qr_iastore 63 rfl (by decide) rfl (by decide) (by decide) rfl ?_
        refine qy_wA (qw_r α208 59 (qzu (α208 59) (1 : Int).toNat (v192 / 64))) rfl (fun α213 e214 => ?_)
        have hI215 : qI σ α213 κ ρ := by rw [e214]; exact qI_r hI210 59 _ rfl (show (-2147483648) ≤ (v192 / 64) ∧ (v192 / 64) ≤ 2147483647 by omega)
        have hF216 : qFr [] [53, 57, 59, 60, 61, 62, 63, 85] σ α σ α213 := by rw [e214]; exact qFr_r hF211 59 _ (by decide)
        have hy217 : qSt σ α213 := qSt_c rfl (by rw [e214]; exact qw_r_ne (by decide)) (by rw [e214]; exact qw_r_ne (by decide)) hy212
        exact hJ65 _ α213 g198 g199 g200 g201 g202 g203 hI215 hF216 hy217
      refine qr_icmp_ge 53 49 rfl rfl rfl (by omega) (by decide) (fun h218 => ?_) (fun h218 => ?_)
      · skip
        refine qr_iconst 54 rfl rfl ?_
        exact hJ207 _ 0 rfl rfl rfl rfl rfl rfl rfl (by decide)
      · skip
        refine qr_iconst 50 rfl rfl ?_
        refine qr_goto 54 rfl rfl ?_
        exact hJ207 _ 1 rfl rfl rfl rfl rfl rfl rfl (by decide)
    · skip
      refine qr_aload 19 rfl rfl rfl ?_
      refine qr_iconst 20 rfl rfl ?_
      refine qr_callN 23 rfl rfl rfl (sf_91_50 (d := d + 1) hI (by decide)) ?_
      rintro _ _ ⟨rfl, v219, rfl, hv219⟩
      show qr_W (qe L xs vb) (d + 3) qx_e90 _ (23, _, [.int (qz v219)], qw σ α κ ρ, 0, 0)
      refine qr_if_eq 63 26 rfl rfl rfl (qrg hv219 (by decide) (by decide)) (fun h220 => ?_) (fun h220 => ?_)
      · skip
        exact hJ65 _ α rfl rfl rfl rfl rfl rfl hI hF0 p1
      · skip
        refine qr_aload_n 27 rfl rfl rfl ?_
        refine qr_iload_n 28 rfl rfl rfl ?_
        refine qr_iload_n 29 rfl rfl rfl ?_
        refine qr_callN 32 rfl rfl rfl (sf_92_58s (d := d + 0) hI r2 r3 (by omega) p1) ?_
        rintro _ _ ⟨α223, rfl, hI224, hG225, v221, rfl, hv221, hx222⟩
        have hF226 : qFr [] [53, 57, 59, 60, 61, 62, 63, 85] σ α σ α223 := qFr_t hF0 hG225 (by decide) (by decide)
        show qr_W (qe L xs vb) (d + 3) qx_e90 _ (32, _, [.int (qz v221)], qw σ α223 κ ρ, 0, 0)
        refine qr_bipush 34 rfl (by decide) rfl ?_
        refine qr_idiv 35 rfl (qrg hv221 (by decide) (by decide)) (by decide) rfl ?_
        refine qr_istore _ 37 rfl (by decide) rfl rfl ?_
        refine qr_aload_n 38 rfl rfl rfl ?_
        refine qr_get 41 rfl rfl rfl (by decide) rfl ?_
        refine qr_iconst 42 rfl rfl ?_
        refine qr_iload 44 rfl rfl rfl ?_
        refine qr_bipush 46 rfl (by decide) rfl ?_
        have hJ236 : ∀ (ls : qm_L) (u234 : Int), qm_get ls 0 = some (.ref 58) → qm_get ls 2 = some (.int (qz x2)) → qm_get ls 3 = some (.int (qz x3)) → qm_get ls 4 = some (.int (qz x4)) → qm_get ls 5 = some (.long (ql x5)) → qm_get ls 7 = some (.ref 50) → qm_get ls 8 = some (.int (qz (v221 / 64))) → (0 ≤ u234 ∧ u234 ≤ 1) → qr_W (qe L xs vb) (d + 3) qx_e90 (fun r w' => ∃ α', w' = qw σ α' κ ρ ∧ qI σ α' κ ρ ∧ qFr [] [53, 57, 59, 60, 61, 62, 63, 85] σ α σ α' ∧ ∃ v : Int, r = some (.int (qz v)) ∧ ((-2147483648) ≤ v ∧ v ≤ 2147483647) ∧ qSt σ α') (54, ls, [.int (qz u234), .int (qz 0), .ref 59], qw σ α223 κ ρ, 0, 0) := by
          intro ls u234 g227 g228 g229 g230 g231 g232 g233 hf235
          refine qr_iastore 55 rfl (by decide) rfl (by decide) (by decide) rfl ?_
          refine qy_wA (qw_r α223 59 (qzu (α223 59) (0 : Int).toNat u234)) rfl (fun α237 e238 => ?_)
          have hI239 : qI σ α237 κ ρ := by rw [e238]; exact qI_r hI224 59 _ rfl (show (-2147483648) ≤ u234 ∧ u234 ≤ 2147483647 by omega)
          have hF240 : qFr [] [53, 57, 59, 60, 61, 62, 63, 85] σ α σ α237 := by rw [e238]; exact qFr_r hF226 59 _ (by decide)
          have hy241 : qSt σ α237 := qSt_c rfl (by rw [e238]; exact qw_r_ne (by decide)) (by rw [e238]; exact qw_r_ne (by decide)) hx222
          refine qr_aload_n 56 rfl g227 rfl ?_
          refine qr_get 59 rfl rfl rfl (by decide) rfl ?_
          refine qr_iconst 60 rfl rfl ?_
          refine qr_iload 62 rfl g233 rfl ?_
          refine qr_iastore 63 rfl (by decide) rfl (by decide) (by decide) rfl ?_
          refine qy_wA (qw_r α237 59 (qzu (α237 59) (1 : Int).toNat (v221 / 64))) rfl (fun α242 e243 => ?_)
          have hI244 : qI σ α242 κ ρ := by rw [e243]; exact qI_r hI239 59 _ rfl (show (-2147483648) ≤ (v221 / 64) ∧ (v221 / 64) ≤ 2147483647 by omega)
          have hF245 : qFr [] [53, 57, 59, 60, 61, 62, 63, 85] σ α σ α242 := by rw [e243]; exact qFr_r hF240 59 _ (by decide)
          have hy246 : qSt σ α242 := qSt_c rfl (by rw [e243]; exact qw_r_ne (by decide)) (by rw [e243]; exact qw_r_ne (by decide)) hy241
          exact hJ65 _ α242 g227 g228 g229 g230 g231 g232 hI244 hF245 hy246
        refine qr_icmp_ge 53 49 rfl rfl rfl (by omega) (by decide) (fun h247 => ?_) (fun h247 => ?_)
        · skip
          refine qr_iconst 54 rfl rfl ?_
          exact hJ236 _ 0 rfl rfl rfl rfl rfl rfl rfl (by decide)
        · skip
          refine qr_iconst 50 rfl rfl ?_
          refine qr_goto 54 rfl rfl ?_
          exact hJ236 _ 1 rfl rfl rfl rfl rfl rfl rfl (by decide)
  · skip
    refine qr_astore _ 8 rfl (by decide) rfl rfl ?_
    refine qr_aload 10 rfl rfl rfl ?_
    refine qr_iconst 11 rfl rfl ?_
    refine qr_callN 14 rfl rfl rfl (sf_91_54 (d := d + 1) hI (by decide)) ?_
    rintro _ _ ⟨rfl, v248, rfl, hv248⟩
    show qr_W (qe L xs vb) (d + 3) qx_e90 _ (14, _, [.int (qz v248)], qw σ α κ ρ, 0, 0)
    have hJ309 : ∀ (ls : qm_L) (α305 : Nat → Nat → Int), qm_get ls 0 = some (.ref 58) → qm_get ls 2 = some (.int (qz x2)) → qm_get ls 3 = some (.int (qz x3)) → qm_get ls 4 = some (.int (qz x4)) → qm_get ls 5 = some (.long (ql x5)) → qm_get ls 7 = some (.ref 54) → qI σ α305 κ ρ → qFr [] [53, 57, 59, 60, 61, 62, 63, 85] σ α σ α305 → qSt σ α305 → qr_W (qe L xs vb) (d + 3) qx_e90 (fun r w' => ∃ α', w' = qw σ α' κ ρ ∧ qI σ α' κ ρ ∧ qFr [] [53, 57, 59, 60, 61, 62, 63, 85] σ α σ α' ∧ ∃ v : Int, r = some (.int (qz v)) ∧ ((-2147483648) ≤ v ∧ v ≤ 2147483647) ∧ qSt σ α') (63, ls, [], qw σ α305 κ ρ, 0, 0) := by
      intro ls α305 g298 g299 g300 g301 g302 g303 hI306 hF307 hx308
      refine qr_aload 65 rfl g303 rfl ?_
      refine qr_iconst 66 rfl rfl ?_
      refine qr_callN 69 rfl rfl rfl (sf_91_54 (d := d + 1) hI306 (by decide)) ?_
      rintro _ _ ⟨rfl, v310, rfl, hv310⟩
      show qr_W (qe L xs vb) (d + 3) qx_e90 _ (69, _, [.int (qz v310)], qw σ α305 κ ρ, 0, 0)
      have hJ334 : ∀ (ls : qm_L) (α330 : Nat → Nat → Int), qm_get ls 0 = some (.ref 58) → qm_get ls 2 = some (.int (qz x2)) → qm_get ls 3 = some (.int (qz x3)) → qm_get ls 4 = some (.int (qz x4)) → qm_get ls 5 = some (.long (ql x5)) → qm_get ls 7 = some (.ref 54) → qI σ α330 κ ρ → qFr [] [53, 57, 59, 60, 61, 62, 63, 85] σ α σ α330 → qSt σ α330 → qr_W (qe L xs vb) (d + 3) qx_e90 (fun r w' => ∃ α', w' = qw σ α' κ ρ ∧ qI σ α' κ ρ ∧ qFr [] [53, 57, 59, 60, 61, 62, 63, 85] σ α σ α' ∧ ∃ v : Int, r = some (.int (qz v)) ∧ ((-2147483648) ≤ v ∧ v ≤ 2147483647) ∧ qSt σ α') (87, ls, [], qw σ α330 κ ρ, 0, 0) := by
        intro ls α330 g323 g324 g325 g326 g327 g328 hI331 hF332 hx333
        refine qr_aload 89 rfl g328 rfl ?_
        refine qr_bipush 91 rfl (by decide) rfl ?_
        refine qr_callN 94 rfl rfl rfl (sf_91_54 (d := d + 1) hI331 (by decide)) ?_
        rintro _ _ ⟨rfl, v335, rfl, hv335⟩
        show qr_W (qe L xs vb) (d + 3) qx_e90 _ (94, _, [.int (qz v335)], qw σ α330 κ ρ, 0, 0)
        have hJ352 : ∀ (ls : qm_L) (α348 : Nat → Nat → Int), qm_get ls 0 = some (.ref 58) → qm_get ls 2 = some (.int (qz x2)) → qm_get ls 3 = some (.int (qz x3)) → qm_get ls 4 = some (.int (qz x4)) → qm_get ls 7 = some (.ref 54) → qI σ α348 κ ρ → qFr [] [53, 57, 59, 60, 61, 62, 63, 85] σ α σ α348 → qSt σ α348 → qr_W (qe L xs vb) (d + 3) qx_e90 (fun r w' => ∃ α', w' = qw σ α' κ ρ ∧ qI σ α' κ ρ ∧ qFr [] [53, 57, 59, 60, 61, 62, 63, 85] σ α σ α' ∧ ∃ v : Int, r = some (.int (qz v)) ∧ ((-2147483648) ≤ v ∧ v ≤ 2147483647) ∧ qSt σ α') (114, ls, [], qw σ α348 κ ρ, 0, 0) := by
          intro ls α348 g342 g343 g344 g345 g346 hI349 hF350 hx351
          refine qr_aload_n 115 rfl g342 rfl ?_
          refine qr_get 118 rfl rfl rfl (by decide) rfl ?_
          refine qr_iconst 119 rfl rfl ?_
          refine qr_aload_n 120 rfl g342 rfl ?_
          refine qr_get 123 rfl rfl rfl (by decide) rfl ?_
          refine qr_get 126 rfl rfl rfl (by decide) rfl ?_
          refine qr_iload_n 127 rfl g343 rfl ?_
          refine qr_iaload 128 rfl rfl (qrgi r2 (by decide) (by decide)) (by decide) rfl ?_
          refine qr_topI (fun v353 hv353 => ?_)
          have hs354 : (-2147483648) ≤ v353 ∧ v353 ≤ 2147483647 := by rw [hv353]; exact hI349.2.1 20 _ (show _ < 32 from qrgt r2 (by decide) (by decide))
          refine qr_iastore 129 rfl (by decide) rfl (by decide) (by decide) rfl ?_
          refine qy_wA (qw_r α348 59 (qzu (α348 59) (3 : Int).toNat v353)) rfl (fun α355 e356 => ?_)
          have hI357 : qI σ α355 κ ρ := by rw [e356]; exact qI_r hI349 59 _ rfl (show (-2147483648) ≤ v353 ∧ v353 ≤ 2147483647 by omega)
          have hF358 : qFr [] [53, 57, 59, 60, 61, 62, 63, 85] σ α σ α355 := by rw [e356]; exact qFr_r hF350 59 _ (by decide)
          have hy359 : qSt σ α355 := qSt_c rfl (by rw [e356]; exact qw_r_ne (by decide)) (by rw [e356]; exact qw_r_ne (by decide)) hx351
          refine qr_aload_n 130 rfl g342 rfl ?_
          refine qr_get 133 rfl rfl rfl (by decide) rfl ?_
          refine qr_iconst 134 rfl rfl ?_
          refine qr_aload_n 135 rfl g342 rfl ?_
          refine qr_get 138 rfl rfl rfl (by decide) rfl ?_
          refine qr_get 141 rfl rfl rfl (by decide) rfl ?_
          refine qr_iload_n 142 rfl g344 rfl ?_
          refine qr_iaload 143 rfl rfl (qrgi r3 (by decide) (by decide)) (by decide) rfl ?_
          refine qr_topI (fun v360 hv360 => ?_)
          have hs361 : (-2147483648) ≤ v360 ∧ v360 ≤ 2147483647 := by rw [hv360]; exact hI357.2.1 20 _ (show _ < 32 from qrgt r3 (by decide) (by decide))
          refine qr_iastore 144 rfl (by decide) rfl (by decide) (by decide) rfl ?_
          refine qy_wA (qw_r α355 59 (qzu (α355 59) (4 : Int).toNat v360)) rfl (fun α362 e363 => ?_)
          have hI364 : qI σ α362 κ ρ := by rw [e363]; exact qI_r hI357 59 _ rfl (show (-2147483648) ≤ v360 ∧ v360 ≤ 2147483647 by omega)
          have hF365 : qFr [] [53, 57, 59, 60, 61, 62, 63, 85] σ α σ α362 := by rw [e363]; exact qFr_r hF358 59 _ (by decide)
          have hy366 : qSt σ α362 := qSt_c rfl (by rw [e363]; exact qw_r_ne (by decide)) (by rw [e363]; exact qw_r_ne (by decide)) hy359
          refine qr_aload_n 145 rfl g342 rfl ?_
          refine qr_get 148 rfl rfl rfl (by decide) rfl ?_
          refine qr_iconst 149 rfl rfl ?_
          refine qr_aload_n 150 rfl g342 rfl ?_
          refine qr_get 153 rfl rfl rfl (by decide) rfl ?_
          refine qr_get 156 rfl rfl rfl (by decide) rfl ?_
          refine qr_iload_n 157 rfl g343 rfl ?_
          refine qr_laload 158 rfl (by decide) rfl (qrgi r2 (by decide) (by decide)) (by decide) rfl ?_
          refine qr_topL (fun v367 hv367 => ?_)
          have hs368 : (-9223372036854775808) ≤ v367 ∧ v367 ≤ 9223372036854775807 := by rw [hv367]; exact hI364.2.1 22 _ (show _ < 32 from qrgt r2 (by decide) (by decide))
          refine qr_iload_n 159 rfl g344 rfl ?_
          refine qr_callN 162 rfl rfl rfl (sf_50 (d := d + 2) hI364 hs368 (qrg r3 (by decide) (by decide))) ?_
          rintro _ _ ⟨rfl, v369, rfl, hv369⟩
          show qr_W (qe L xs vb) (d + 3) qx_e90 _ (162, _, [.int (qz v369), .int (qz 5), .ref 59], qw σ α362 κ ρ, 0, 0)
          have hJ377 : ∀ (ls : qm_L) (u375 : Int), qm_get ls 0 = some (.ref 58) → qm_get ls 2 = some (.int (qz x2)) → qm_get ls 3 = some (.int (qz x3)) → qm_get ls 4 = some (.int (qz x4)) → qm_get ls 7 = some (.ref 54) → (0 ≤ u375 ∧ u375 ≤ 1) → qr_W (qe L xs vb) (d + 3) qx_e90 (fun r w' => ∃ α', w' = qw σ α' κ ρ ∧ qI σ α' κ ρ ∧ qFr [] [53, 57, 59, 60, 61, 62, 63, 85] σ α σ α' ∧ ∃ v : Int, r = some (.int (qz v)) ∧ ((-2147483648) ≤ v ∧ v ≤ 2147483647) ∧ qSt σ α') (170, ls, [.int (qz u375), .int (qz 5), .ref 59], qw σ α362 κ ρ, 0, 0) := by
            intro ls u375 g370 g371 g372 g373 g374 hf376
            refine qr_iastore 171 rfl (by decide) rfl (by decide) (by decide) rfl ?_
            refine qy_wA (qw_r α362 59 (qzu (α362 59) (5 : Int).toNat u375)) rfl (fun α378 e379 => ?_)
            have hI380 : qI σ α378 κ ρ := by rw [e379]; exact qI_r hI364 59 _ rfl (show (-2147483648) ≤ u375 ∧ u375 ≤ 2147483647 by omega)
            have hF381 : qFr [] [53, 57, 59, 60, 61, 62, 63, 85] σ α σ α378 := by rw [e379]; exact qFr_r hF365 59 _ (by decide)
            have hy382 : qSt σ α378 := qSt_c rfl (by rw [e379]; exact qw_r_ne (by decide)) (by rw [e379]; exact qw_r_ne (by decide)) hy366
            refine qr_aload_n 172 rfl g370 rfl ?_
            refine qr_get 175 rfl rfl rfl (by decide) rfl ?_
            refine qr_bipush 177 rfl (by decide) rfl ?_
            refine qr_aload_n 178 rfl g370 rfl ?_
            refine qr_get 181 rfl rfl rfl (by decide) rfl ?_
            refine qr_iload_n 182 rfl g371 rfl ?_
            refine qr_iload_n 183 rfl g372 rfl ?_
            refine qr_callN 186 rfl rfl rfl (sf_57_23 (d := d + 2) hI380 r2 r3) ?_
            rintro _ _ ⟨rfl, v383, rfl, hv383⟩
            show qr_W (qe L xs vb) (d + 3) qx_e90 _ (186, _, [.int (qz v383), .int (qz 6), .ref 59], qw σ α378 κ ρ, 0, 0)
            refine qr_bipush 188 rfl (by decide) rfl ?_
            refine qr_callN 191 rfl rfl rfl (sf_12 (d := d + 2) hI380 (qrg hv383 (by decide) (by decide)) (by decide)) ?_
            rintro _ _ ⟨rfl, v384, rfl, hv384, hp385⟩
            show qr_W (qe L xs vb) (d + 3) qx_e90 _ (191, _, [.int (qz v384), .int (qz 6), .ref 59], qw σ α378 κ ρ, 0, 0)
            refine qr_iastore 192 rfl (by decide) rfl (by decide) (by decide) rfl ?_
            refine qy_wA (qw_r α378 59 (qzu (α378 59) (6 : Int).toNat v384)) rfl (fun α386 e387 => ?_)
            have hI388 : qI σ α386 κ ρ := by rw [e387]; exact qI_r hI380 59 _ rfl (show (-2147483648) ≤ v384 ∧ v384 ≤ 2147483647 by omega)
            have hF389 : qFr [] [53, 57, 59, 60, 61, 62, 63, 85] σ α σ α386 := by rw [e387]; exact qFr_r hF381 59 _ (by decide)
            have hy390 : qSt σ α386 := qSt_c rfl (by rw [e387]; exact qw_r_ne (by decide)) (by rw [e387]; exact qw_r_ne (by decide)) hy382
            refine qr_aload_n 193 rfl g370 rfl ?_
            refine qr_get 196 rfl rfl rfl (by decide) rfl ?_
            refine qr_bipush 198 rfl (by decide) rfl ?_
            refine qr_iload 200 rfl g373 rfl ?_
            refine qr_iconst 201 rfl rfl ?_
            have hJ398 : ∀ (ls : qm_L) (u396 : Int), qm_get ls 0 = some (.ref 58) → qm_get ls 7 = some (.ref 54) → (0 ≤ u396 ∧ u396 ≤ 9) → qr_W (qe L xs vb) (d + 3) qx_e90 (fun r w' => ∃ α', w' = qw σ α' κ ρ ∧ qI σ α' κ ρ ∧ qFr [] [53, 57, 59, 60, 61, 62, 63, 85] σ α σ α' ∧ ∃ v : Int, r = some (.int (qz v)) ∧ ((-2147483648) ≤ v ∧ v ≤ 2147483647) ∧ qSt σ α') (223, ls, [.int (qz u396), .int (qz 8), .ref 59], qw σ α386 κ ρ, 0, 0) := by
              intro ls u396 g394 g395 hf397
              refine qr_iastore 224 rfl (by decide) rfl (by decide) (by decide) rfl ?_
              refine qy_wA (qw_r α386 59 (qzu (α386 59) (8 : Int).toNat u396)) rfl (fun α399 e400 => ?_)
              have hI401 : qI σ α399 κ ρ := by rw [e400]; exact qI_r hI388 59 _ rfl (show (-2147483648) ≤ u396 ∧ u396 ≤ 2147483647 by omega)
              have hF402 : qFr [] [53, 57, 59, 60, 61, 62, 63, 85] σ α σ α399 := by rw [e400]; exact qFr_r hF389 59 _ (by decide)
              have hy403 : qSt σ α399 := qSt_c rfl (by rw [e400]; exact qw_r_ne (by decide)) (by rw [e400]; exact qw_r_ne (by decide)) hy390
              refine qr_aload 226 rfl g395 rfl ?_
              refine qr_aload_n 227 rfl g394 rfl ?_
              refine qr_get 230 rfl rfl rfl (by decide) rfl ?_
              refine qr_callN 233 rfl rfl rfl (sf_97_54_59 (d := d + 1) hI401 ) ?_
              rintro _ _ ⟨α405, rfl, hI406, hG407, v404, rfl, hv404⟩
              have hF408 : qFr [] [53, 57, 59, 60, 61, 62, 63, 85] σ α σ α405 := qFr_t hF402 hG407 (by decide) (by decide)
              have hy409 := qSt_fr hG407 (by decide) (by decide) hy403
              show qr_W (qe L xs vb) (d + 3) qx_e90 _ (233, _, [.int (qz v404)], qw σ α405 κ ρ, 0, 0)
              refine qr_retI rfl rfl (by decide) (by decide) ?_
              exact ⟨_, rfl, hI406, hF408, v404, rfl, hv404, hy409⟩
            refine qr_icmp_ne 208 204 rfl rfl rfl (qrg r4 (by decide) (by decide)) (by decide) (fun h410 => ?_) (fun h410 => ?_)
            · skip
              refine qr_aload_n 209 rfl g370 rfl ?_
              refine qr_get 212 rfl rfl rfl (by decide) rfl ?_
              refine qr_iload_n 213 rfl g371 rfl ?_
              refine qr_iload 215 rfl g373 rfl ?_
              refine qr_callN 218 rfl rfl rfl (sf_57_23 (d := d + 2) hI388 r2 (by omega)) ?_
              rintro _ _ ⟨rfl, v411, rfl, hv411⟩
              show qr_W (qe L xs vb) (d + 3) qx_e90 _ (218, _, [.int (qz v411), .int (qz 8), .ref 59], qw σ α386 κ ρ, 0, 0)
              refine qr_bipush 220 rfl (by decide) rfl ?_
              refine qr_callN 223 rfl rfl rfl (sf_12 (d := d + 2) hI388 (qrg hv411 (by decide) (by decide)) (by decide)) ?_
              rintro _ _ ⟨rfl, v412, rfl, hv412, hp413⟩
              show qr_W (qe L xs vb) (d + 3) qx_e90 _ (223, _, [.int (qz v412), .int (qz 8), .ref 59], qw σ α386 κ ρ, 0, 0)
              exact hJ398 _ v412 g370 g374 (by omega)
            · skip
              refine qr_iconst 205 rfl rfl ?_
              refine qr_goto 223 rfl rfl ?_
              exact hJ398 _ 0 g370 g374 (by decide)
          refine qr_if_eq 169 165 rfl rfl rfl (qrg hv369 (by decide) (by decide)) (fun h414 => ?_) (fun h414 => ?_)
          · skip
            refine qr_iconst 170 rfl rfl ?_
            exact hJ377 _ 0 g342 g343 g344 g345 g346 (by decide)
          · skip
            refine qr_iconst 166 rfl rfl ?_
            refine qr_goto 170 rfl rfl ?_
            exact hJ377 _ 1 g342 g343 g344 g345 g346 (by decide)
        refine qr_if_eq 114 97 rfl rfl rfl (qrg hv335 (by decide) (by decide)) (fun h415 => ?_) (fun h415 => ?_)
        · skip
          exact hJ352 _ α330 g323 g324 g325 g326 g328 hI331 hF332 hx333
        · skip
          refine qr_aload_n 98 rfl g323 rfl ?_
          refine qr_get 101 rfl rfl rfl (by decide) rfl ?_
          refine qr_bipush 103 rfl (by decide) rfl ?_
          refine qr_aload_n 104 rfl g323 rfl ?_
          refine qr_get 107 rfl rfl rfl (by decide) rfl ?_
          refine qr_iload_n 108 rfl g324 rfl ?_
          refine qr_lload 110 rfl g327 rfl ?_
          refine qr_callN 113 rfl rfl rfl (sf_95_17 (d := d + 1) hI331 r2 r5) ?_
          rintro _ _ ⟨rfl, v416, rfl, hv416⟩
          show qr_W (qe L xs vb) (d + 3) qx_e90 _ (113, _, [.int (qz v416), .int (qz 7), .ref 59], qw σ α330 κ ρ, 0, 0)
          refine qr_iastore 114 rfl (by decide) rfl (by decide) (by decide) rfl ?_
          refine qy_wA (qw_r α330 59 (qzu (α330 59) (7 : Int).toNat v416)) rfl (fun α417 e418 => ?_)
          have hI419 : qI σ α417 κ ρ := by rw [e418]; exact qI_r hI331 59 _ rfl (show (-2147483648) ≤ v416 ∧ v416 ≤ 2147483647 by omega)
          have hF420 : qFr [] [53, 57, 59, 60, 61, 62, 63, 85] σ α σ α417 := by rw [e418]; exact qFr_r hF332 59 _ (by decide)
          have hy421 : qSt σ α417 := qSt_c rfl (by rw [e418]; exact qw_r_ne (by decide)) (by rw [e418]; exact qw_r_ne (by decide)) hx333
          exact hJ352 _ α417 g323 g324 g325 g326 g328 hI419 hF420 hy421
      refine qr_if_eq 87 72 rfl rfl rfl (qrg hv310 (by decide) (by decide)) (fun h422 => ?_) (fun h422 => ?_)
      · skip
        exact hJ334 _ α305 g298 g299 g300 g301 g302 g303 hI306 hF307 hx308
      · skip
        refine qr_aload_n 73 rfl g298 rfl ?_
        refine qr_get 76 rfl rfl rfl (by decide) rfl ?_
        refine qr_iconst 77 rfl rfl ?_
        refine qr_aload_n 78 rfl g298 rfl ?_
        refine qr_iload_n 79 rfl g299 rfl ?_
        refine qr_iload_n 80 rfl g300 rfl ?_
        refine qr_callN 83 rfl rfl rfl (sf_94_58s (d := d + 0) hI306 r2 r3 (by omega) hx308) ?_
        rintro _ _ ⟨α425, rfl, hI426, hG427, v423, rfl, hv423, hx424⟩
        have hF428 : qFr [] [53, 57, 59, 60, 61, 62, 63, 85] σ α σ α425 := qFr_t hF307 hG427 (by decide) (by decide)
        show qr_W (qe L xs vb) (d + 3) qx_e90 _ (83, _, [.long (ql v423), .int (qz 2), .ref 59], qw σ α425 κ ρ, 0, 0)
        refine qr_callN 86 rfl rfl rfl (sf_74 (d := d + 2) hI426 hv423) ?_
        rintro _ _ ⟨rfl, v429, rfl, hv429⟩
        show qr_W (qe L xs vb) (d + 3) qx_e90 _ (86, _, [.int (qz v429), .int (qz 2), .ref 59], qw σ α425 κ ρ, 0, 0)
        refine qr_iastore 87 rfl (by decide) rfl (by decide) (by decide) rfl ?_
        refine qy_wA (qw_r α425 59 (qzu (α425 59) (2 : Int).toNat v429)) rfl (fun α430 e431 => ?_)
        have hI432 : qI σ α430 κ ρ := by rw [e431]; exact qI_r hI426 59 _ rfl (show (-2147483648) ≤ v429 ∧ v429 ≤ 2147483647 by omega)
        have hF433 : qFr [] [53, 57, 59, 60, 61, 62, 63, 85] σ α σ α430 := by rw [e431]; exact qFr_r hF428 59 _ (by decide)
        have hy434 : qSt σ α430 := qSt_c rfl (by rw [e431]; exact qw_r_ne (by decide)) (by rw [e431]; exact qw_r_ne (by decide)) hx424
        exact hJ334 _ α430 g298 g299 g300 g301 g302 g303 hI432 hF433 hy434
    refine qr_if_ne 26 17 rfl rfl rfl (qrg hv248 (by decide) (by decide)) (fun h435 => ?_) (fun h435 => ?_)
    · skip
      refine qr_aload_n 27 rfl rfl rfl ?_
      refine qr_iload_n 28 rfl rfl rfl ?_
      refine qr_iload_n 29 rfl rfl rfl ?_
      refine qr_callN 32 rfl rfl rfl (sf_92_58s (d := d + 0) hI r2 r3 (by omega) p1) ?_
      rintro _ _ ⟨α438, rfl, hI439, hG440, v436, rfl, hv436, hx437⟩
      have hF441 : qFr [] [53, 57, 59, 60, 61, 62, 63, 85] σ α σ α438 := qFr_t hF0 hG440 (by decide) (by decide)
      show qr_W (qe L xs vb) (d + 3) qx_e90 _ (32, _, [.int (qz v436)], qw σ α438 κ ρ, 0, 0)
      refine qr_bipush 34 rfl (by decide) rfl ?_
      refine qr_idiv 35 rfl (qrg hv436 (by decide) (by decide)) (by decide) rfl ?_
      refine qr_istore _ 37 rfl (by decide) rfl rfl ?_
      refine qr_aload_n 38 rfl rfl rfl ?_
      refine qr_get 41 rfl rfl rfl (by decide) rfl ?_
      refine qr_iconst 42 rfl rfl ?_
      refine qr_iload 44 rfl rfl rfl ?_
      refine qr_bipush 46 rfl (by decide) rfl ?_
      have hJ451 : ∀ (ls : qm_L) (u449 : Int), qm_get ls 0 = some (.ref 58) → qm_get ls 2 = some (.int (qz x2)) → qm_get ls 3 = some (.int (qz x3)) → qm_get ls 4 = some (.int (qz x4)) → qm_get ls 5 = some (.long (ql x5)) → qm_get ls 7 = some (.ref 54) → qm_get ls 8 = some (.int (qz (v436 / 64))) → (0 ≤ u449 ∧ u449 ≤ 1) → qr_W (qe L xs vb) (d + 3) qx_e90 (fun r w' => ∃ α', w' = qw σ α' κ ρ ∧ qI σ α' κ ρ ∧ qFr [] [53, 57, 59, 60, 61, 62, 63, 85] σ α σ α' ∧ ∃ v : Int, r = some (.int (qz v)) ∧ ((-2147483648) ≤ v ∧ v ≤ 2147483647) ∧ qSt σ α') (54, ls, [.int (qz u449), .int (qz 0), .ref 59], qw σ α438 κ ρ, 0, 0) := by
        intro ls u449 g442 g443 g444 g445 g446 g447 g448 hf450
        refine qr_iastore 55 rfl (by decide) rfl (by decide) (by decide) rfl ?_
        refine qy_wA (qw_r α438 59 (qzu (α438 59) (0 : Int).toNat u449)) rfl (fun α452 e453 => ?_)
        have hI454 : qI σ α452 κ ρ := by rw [e453]; exact qI_r hI439 59 _ rfl (show (-2147483648) ≤ u449 ∧ u449 ≤ 2147483647 by omega)
        have hF455 : qFr [] [53, 57, 59, 60, 61, 62, 63, 85] σ α σ α452 := by rw [e453]; exact qFr_r hF441 59 _ (by decide)
        have hy456 : qSt σ α452 := qSt_c rfl (by rw [e453]; exact qw_r_ne (by decide)) (by rw [e453]; exact qw_r_ne (by decide)) hx437
        refine qr_aload_n 56 rfl g442 rfl ?_
        refine qr_get 59 rfl rfl rfl (by decide) rfl ?_
        refine qr_iconst 60 rfl rfl ?_
        refine qr_iload 62 rfl g448 rfl ?_
        refine qr_iastore 63 rfl (by decide) rfl (by decide) (by decide) rfl ?_
        refine qy_wA (qw_r α452 59 (qzu (α452 59) (1 : Int).toNat (v436 / 64))) rfl (fun α457 e458 => ?_)
        have hI459 : qI σ α457 κ ρ := by rw [e458]; exact qI_r hI454 59 _ rfl (show (-2147483648) ≤ (v436 / 64) ∧ (v436 / 64) ≤ 2147483647 by omega)
        have hF460 : qFr [] [53, 57, 59, 60, 61, 62, 63, 85] σ α σ α457 := by rw [e458]; exact qFr_r hF455 59 _ (by decide)
        have hy461 : qSt σ α457 := qSt_c rfl (by rw [e458]; exact qw_r_ne (by decide)) (by rw [e458]; exact qw_r_ne (by decide)) hy456
        exact hJ309 _ α457 g442 g443 g444 g445 g446 g447 hI459 hF460 hy461
      refine qr_icmp_ge 53 49 rfl rfl rfl (by omega) (by decide) (fun h462 => ?_) (fun h462 => ?_)
      · skip
        refine qr_iconst 54 rfl rfl ?_
        exact hJ451 _ 0 rfl rfl rfl rfl rfl rfl rfl (by decide)
      · skip
        refine qr_iconst 50 rfl rfl ?_
        refine qr_goto 54 rfl rfl ?_
        exact hJ451 _ 1 rfl rfl rfl rfl rfl rfl rfl (by decide)
    · skip
      refine qr_aload 19 rfl rfl rfl ?_
      refine qr_iconst 20 rfl rfl ?_
      refine qr_callN 23 rfl rfl rfl (sf_91_54 (d := d + 1) hI (by decide)) ?_
      rintro _ _ ⟨rfl, v463, rfl, hv463⟩
      show qr_W (qe L xs vb) (d + 3) qx_e90 _ (23, _, [.int (qz v463)], qw σ α κ ρ, 0, 0)
      refine qr_if_eq 63 26 rfl rfl rfl (qrg hv463 (by decide) (by decide)) (fun h464 => ?_) (fun h464 => ?_)
      · skip
        exact hJ309 _ α rfl rfl rfl rfl rfl rfl hI hF0 p1
      · skip
        refine qr_aload_n 27 rfl rfl rfl ?_
        refine qr_iload_n 28 rfl rfl rfl ?_
        refine qr_iload_n 29 rfl rfl rfl ?_
        refine qr_callN 32 rfl rfl rfl (sf_92_58s (d := d + 0) hI r2 r3 (by omega) p1) ?_
        rintro _ _ ⟨α467, rfl, hI468, hG469, v465, rfl, hv465, hx466⟩
        have hF470 : qFr [] [53, 57, 59, 60, 61, 62, 63, 85] σ α σ α467 := qFr_t hF0 hG469 (by decide) (by decide)
        show qr_W (qe L xs vb) (d + 3) qx_e90 _ (32, _, [.int (qz v465)], qw σ α467 κ ρ, 0, 0)
        refine qr_bipush 34 rfl (by decide) rfl ?_
        refine qr_idiv 35 rfl (qrg hv465 (by decide) (by decide)) (by decide) rfl ?_
        refine qr_istore _ 37 rfl (by decide) rfl rfl ?_
        refine qr_aload_n 38 rfl rfl rfl ?_
        refine qr_get 41 rfl rfl rfl (by decide) rfl ?_
        refine qr_iconst 42 rfl rfl ?_
        refine qr_iload 44 rfl rfl rfl ?_
        refine qr_bipush 46 rfl (by decide) rfl ?_
        have hJ480 : ∀ (ls : qm_L) (u478 : Int), qm_get ls 0 = some (.ref 58) → qm_get ls 2 = some (.int (qz x2)) → qm_get ls 3 = some (.int (qz x3)) → qm_get ls 4 = some (.int (qz x4)) → qm_get ls 5 = some (.long (ql x5)) → qm_get ls 7 = some (.ref 54) → qm_get ls 8 = some (.int (qz (v465 / 64))) → (0 ≤ u478 ∧ u478 ≤ 1) → qr_W (qe L xs vb) (d + 3) qx_e90 (fun r w' => ∃ α', w' = qw σ α' κ ρ ∧ qI σ α' κ ρ ∧ qFr [] [53, 57, 59, 60, 61, 62, 63, 85] σ α σ α' ∧ ∃ v : Int, r = some (.int (qz v)) ∧ ((-2147483648) ≤ v ∧ v ≤ 2147483647) ∧ qSt σ α') (54, ls, [.int (qz u478), .int (qz 0), .ref 59], qw σ α467 κ ρ, 0, 0) := by
          intro ls u478 g471 g472 g473 g474 g475 g476 g477 hf479
          refine qr_iastore 55 rfl (by decide) rfl (by decide) (by decide) rfl ?_
          refine qy_wA (qw_r α467 59 (qzu (α467 59) (0 : Int).toNat u478)) rfl (fun α481 e482 => ?_)
          have hI483 : qI σ α481 κ ρ := by rw [e482]; exact qI_r hI468 59 _ rfl (show (-2147483648) ≤ u478 ∧ u478 ≤ 2147483647 by omega)
          have hF484 : qFr [] [53, 57, 59, 60, 61, 62, 63, 85] σ α σ α481 := by rw [e482]; exact qFr_r hF470 59 _ (by decide)
          have hy485 : qSt σ α481 := qSt_c rfl (by rw [e482]; exact qw_r_ne (by decide)) (by rw [e482]; exact qw_r_ne (by decide)) hx466
          refine qr_aload_n 56 rfl g471 rfl ?_
          refine qr_get 59 rfl rfl rfl (by decide) rfl ?_
          refine qr_iconst 60 rfl rfl ?_
          refine qr_iload 62 rfl g477 rfl ?_
          refine qr_iastore 63 rfl (by decide) rfl (by decide) (by decide) rfl ?_
          refine qy_wA (qw_r α481 59 (qzu (α481 59) (1 : Int).toNat (v465 / 64))) rfl (fun α486 e487 => ?_)
          have hI488 : qI σ α486 κ ρ := by rw [e487]; exact qI_r hI483 59 _ rfl (show (-2147483648) ≤ (v465 / 64) ∧ (v465 / 64) ≤ 2147483647 by omega)
          have hF489 : qFr [] [53, 57, 59, 60, 61, 62, 63, 85] σ α σ α486 := by rw [e487]; exact qFr_r hF484 59 _ (by decide)
          have hy490 : qSt σ α486 := qSt_c rfl (by rw [e487]; exact qw_r_ne (by decide)) (by rw [e487]; exact qw_r_ne (by decide)) hy485
          exact hJ309 _ α486 g471 g472 g473 g474 g475 g476 hI488 hF489 hy490
        refine qr_icmp_ge 53 49 rfl rfl rfl (by omega) (by decide) (fun h491 => ?_) (fun h491 => ?_)
        · skip
          refine qr_iconst 54 rfl rfl ?_
          exact hJ480 _ 0 rfl rfl rfl rfl rfl rfl rfl (by decide)
        · skip
          refine qr_iconst 50 rfl rfl ?_
          refine qr_goto 54 rfl rfl ?_
          exact hJ480 _ 1 rfl rfl rfl rfl rfl rfl rfl (by decide)
  · skip
    refine qr_astore _ 8 rfl (by decide) rfl rfl ?_
    refine qr_aload 10 rfl rfl rfl ?_
    refine qr_iconst 11 rfl rfl ?_
    refine qr_callN 14 rfl rfl rfl (sf_91_82 (d := d + 1) hI (by decide)) ?_
    rintro _ _ ⟨rfl, v492, rfl, hv492⟩
    show qr_W (qe L xs vb) (d + 3) qx_e90 _ (14, _, [.int (qz v492)], qw σ α κ ρ, 0, 0)
    have hJ553 : ∀ (ls : qm_L) (α549 : Nat → Nat → Int), qm_get ls 0 = some (.ref 58) → qm_get ls 2 = some (.int (qz x2)) → qm_get ls 3 = some (.int (qz x3)) → qm_get ls 4 = some (.int (qz x4)) → qm_get ls 5 = some (.long (ql x5)) → qm_get ls 7 = some (.ref 82) → qI σ α549 κ ρ → qFr [] [53, 57, 59, 60, 61, 62, 63, 85] σ α σ α549 → qSt σ α549 → qr_W (qe L xs vb) (d + 3) qx_e90 (fun r w' => ∃ α', w' = qw σ α' κ ρ ∧ qI σ α' κ ρ ∧ qFr [] [53, 57, 59, 60, 61, 62, 63, 85] σ α σ α' ∧ ∃ v : Int, r = some (.int (qz v)) ∧ ((-2147483648) ≤ v ∧ v ≤ 2147483647) ∧ qSt σ α') (63, ls, [], qw σ α549 κ ρ, 0, 0) := by
      intro ls α549 g542 g543 g544 g545 g546 g547 hI550 hF551 hx552
      refine qr_aload 65 rfl g547 rfl ?_
      refine qr_iconst 66 rfl rfl ?_
      refine qr_callN 69 rfl rfl rfl (sf_91_82 (d := d + 1) hI550 (by decide)) ?_
      rintro _ _ ⟨rfl, v554, rfl, hv554⟩
      show qr_W (qe L xs vb) (d + 3) qx_e90 _ (69, _, [.int (qz v554)], qw σ α549 κ ρ, 0, 0)
      have hJ578 : ∀ (ls : qm_L) (α574 : Nat → Nat → Int), qm_get ls 0 = some (.ref 58) → qm_get ls 2 = some (.int (qz x2)) → qm_get ls 3 = some (.int (qz x3)) → qm_get ls 4 = some (.int (qz x4)) → qm_get ls 5 = some (.long (ql x5)) → qm_get ls 7 = some (.ref 82) → qI σ α574 κ ρ → qFr [] [53, 57, 59, 60, 61, 62, 63, 85] σ α σ α574 → qSt σ α574 → qr_W (qe L xs vb) (d + 3) qx_e90 (fun r w' => ∃ α', w' = qw σ α' κ ρ ∧ qI σ α' κ ρ ∧ qFr [] [53, 57, 59, 60, 61, 62, 63, 85] σ α σ α' ∧ ∃ v : Int, r = some (.int (qz v)) ∧ ((-2147483648) ≤ v ∧ v ≤ 2147483647) ∧ qSt σ α') (87, ls, [], qw σ α574 κ ρ, 0, 0) := by
        intro ls α574 g567 g568 g569 g570 g571 g572 hI575 hF576 hx577
        refine qr_aload 89 rfl g572 rfl ?_
        refine qr_bipush 91 rfl (by decide) rfl ?_
        refine qr_callN 94 rfl rfl rfl (sf_91_82 (d := d + 1) hI575 (by decide)) ?_
        rintro _ _ ⟨rfl, v579, rfl, hv579⟩
        show qr_W (qe L xs vb) (d + 3) qx_e90 _ (94, _, [.int (qz v579)], qw σ α574 κ ρ, 0, 0)
        have hJ596 : ∀ (ls : qm_L) (α592 : Nat → Nat → Int), qm_get ls 0 = some (.ref 58) → qm_get ls 2 = some (.int (qz x2)) → qm_get ls 3 = some (.int (qz x3)) → qm_get ls 4 = some (.int (qz x4)) → qm_get ls 7 = some (.ref 82) → qI σ α592 κ ρ → qFr [] [53, 57, 59, 60, 61, 62, 63, 85] σ α σ α592 → qSt σ α592 → qr_W (qe L xs vb) (d + 3) qx_e90 (fun r w' => ∃ α', w' = qw σ α' κ ρ ∧ qI σ α' κ ρ ∧ qFr [] [53, 57, 59, 60, 61, 62, 63, 85] σ α σ α' ∧ ∃ v : Int, r = some (.int (qz v)) ∧ ((-2147483648) ≤ v ∧ v ≤ 2147483647) ∧ qSt σ α') (114, ls, [], qw σ α592 κ ρ, 0, 0) := by
          intro ls α592 g586 g587 g588 g589 g590 hI593 hF594 hx595
          refine qr_aload_n 115 rfl g586 rfl ?_
          refine qr_get 118 rfl rfl rfl (by decide) rfl ?_
          refine qr_iconst 119 rfl rfl ?_
          refine qr_aload_n 120 rfl g586 rfl ?_
          refine qr_get 123 rfl rfl rfl (by decide) rfl ?_
          refine qr_get 126 rfl rfl rfl (by decide) rfl ?_
          refine qr_iload_n 127 rfl g587 rfl ?_
          refine qr_iaload 128 rfl rfl (qrgi r2 (by decide) (by decide)) (by decide) rfl ?_
          refine qr_topI (fun v597 hv597 => ?_)
          have hs598 : (-2147483648) ≤ v597 ∧ v597 ≤ 2147483647 := by rw [hv597]; exact hI593.2.1 20 _ (show _ < 32 from qrgt r2 (by decide) (by decide))
          refine qr_iastore 129 rfl (by decide) rfl (by decide) (by decide) rfl ?_
          refine qy_wA (qw_r α592 59 (qzu (α592 59) (3 : Int).toNat v597)) rfl (fun α599 e600 => ?_)
          have hI601 : qI σ α599 κ ρ := by rw [e600]; exact qI_r hI593 59 _ rfl (show (-2147483648) ≤ v597 ∧ v597 ≤ 2147483647 by omega)
          have hF602 : qFr [] [53, 57, 59, 60, 61, 62, 63, 85] σ α σ α599 := by rw [e600]; exact qFr_r hF594 59 _ (by decide)
          have hy603 : qSt σ α599 := qSt_c rfl (by rw [e600]; exact qw_r_ne (by decide)) (by rw [e600]; exact qw_r_ne (by decide)) hx595
          refine qr_aload_n 130 rfl g586 rfl ?_
          refine qr_get 133 rfl rfl rfl (by decide) rfl ?_
          refine qr_iconst 134 rfl rfl ?_
          refine qr_aload_n 135 rfl g586 rfl ?_
          refine qr_get 138 rfl rfl rfl (by decide) rfl ?_
          refine qr_get 141 rfl rfl rfl (by decide) rfl ?_
          refine qr_iload_n 142 rfl g588 rfl ?_
          refine qr_iaload 143 rfl rfl (qrgi r3 (by decide) (by decide)) (by decide) rfl ?_
          refine qr_topI (fun v604 hv604 => ?_)
          have hs605 : (-2147483648) ≤ v604 ∧ v604 ≤ 2147483647 := by rw [hv604]; exact hI601.2.1 20 _ (show _ < 32 from qrgt r3 (by decide) (by decide))
          refine qr_iastore 144 rfl (by decide) rfl (by decide) (by decide) rfl ?_
          refine qy_wA (qw_r α599 59 (qzu (α599 59) (4 : Int).toNat v604)) rfl (fun α606 e607 => ?_)
          have hI608 : qI σ α606 κ ρ := by rw [e607]; exact qI_r hI601 59 _ rfl (show (-2147483648) ≤ v604 ∧ v604 ≤ 2147483647 by omega)
          have hF609 : qFr [] [53, 57, 59, 60, 61, 62, 63, 85] σ α σ α606 := by rw [e607]; exact qFr_r hF602 59 _ (by decide)
          have hy610 : qSt σ α606 := qSt_c rfl (by rw [e607]; exact qw_r_ne (by decide)) (by rw [e607]; exact qw_r_ne (by decide)) hy603
          refine qr_aload_n 145 rfl g586 rfl ?_
          refine qr_get 148 rfl rfl rfl (by decide) rfl ?_
          refine qr_iconst 149 rfl rfl ?_
          refine qr_aload_n 150 rfl g586 rfl ?_
          refine qr_get 153 rfl rfl rfl (by decide) rfl ?_
          refine qr_get 156 rfl rfl rfl (by decide) rfl ?_
          refine qr_iload_n 157 rfl g587 rfl ?_
          refine qr_laload 158 rfl (by decide) rfl (qrgi r2 (by decide) (by decide)) (by decide) rfl ?_
          refine qr_topL (fun v611 hv611 => ?_)
          have hs612 : (-9223372036854775808) ≤ v611 ∧ v611 ≤ 9223372036854775807 := by rw [hv611]; exact hI608.2.1 22 _ (show _ < 32 from qrgt r2 (by decide) (by decide))
          refine qr_iload_n 159 rfl g588 rfl ?_
          refine qr_callN 162 rfl rfl rfl (sf_50 (d := d + 2) hI608 hs612 (qrg r3 (by decide) (by decide))) ?_
          rintro _ _ ⟨rfl, v613, rfl, hv613⟩
          show qr_W (qe L xs vb) (d + 3) qx_e90 _ (162, _, [.int (qz v613), .int (qz 5), .ref 59], qw σ α606 κ ρ, 0, 0)
          have hJ621 : ∀ (ls : qm_L) (u619 : Int), qm_get ls 0 = some (.ref 58) → qm_get ls 2 = some (.int (qz x2)) → qm_get ls 3 = some (.int (qz x3)) → qm_get ls 4 = some (.int (qz x4)) → qm_get ls 7 = some (.ref 82) → (0 ≤ u619 ∧ u619 ≤ 1) → qr_W (qe L xs vb) (d + 3) qx_e90 (fun r w' => ∃ α', w' = qw σ α' κ ρ ∧ qI σ α' κ ρ ∧ qFr [] [53, 57, 59, 60, 61, 62, 63, 85] σ α σ α' ∧ ∃ v : Int, r = some (.int (qz v)) ∧ ((-2147483648) ≤ v ∧ v ≤ 2147483647) ∧ qSt σ α') (170, ls, [.int (qz u619), .int (qz 5), .ref 59], qw σ α606 κ ρ, 0, 0) := by
            intro ls u619 g614 g615 g616 g617 g618 hf620
            refine qr_iastore 171 rfl (by decide) rfl (by decide) (by decide) rfl ?_
            refine qy_wA (qw_r α606 59 (qzu (α606 59) (5 : Int).toNat u619)) rfl (fun α622 e623 => ?_)
            have hI624 : qI σ α622 κ ρ := by rw [e623]; exact qI_r hI608 59 _ rfl (show (-2147483648) ≤ u619 ∧ u619 ≤ 2147483647 by omega)
            have hF625 : qFr [] [53, 57, 59, 60, 61, 62, 63, 85] σ α σ α622 := by rw [e623]; exact qFr_r hF609 59 _ (by decide)
            have hy626 : qSt σ α622 := qSt_c rfl (by rw [e623]; exact qw_r_ne (by decide)) (by rw [e623]; exact qw_r_ne (by decide)) hy610
            refine qr_aload_n 172 rfl g614 rfl ?_
            refine qr_get 175 rfl rfl rfl (by decide) rfl ?_
            refine qr_bipush 177 rfl (by decide) rfl ?_
            refine qr_aload_n 178 rfl g614 rfl ?_
            refine qr_get 181 rfl rfl rfl (by decide) rfl ?_
            refine qr_iload_n 182 rfl g615 rfl ?_
            refine qr_iload_n 183 rfl g616 rfl ?_
            refine qr_callN 186 rfl rfl rfl (sf_57_23 (d := d + 2) hI624 r2 r3) ?_
            rintro _ _ ⟨rfl, v627, rfl, hv627⟩
            show qr_W (qe L xs vb) (d + 3) qx_e90 _ (186, _, [.int (qz v627), .int (qz 6), .ref 59], qw σ α622 κ ρ, 0, 0)
            refine qr_bipush 188 rfl (by decide) rfl ?_
            refine qr_callN 191 rfl rfl rfl (sf_12 (d := d + 2) hI624 (qrg hv627 (by decide) (by decide)) (by decide)) ?_
            rintro _ _ ⟨rfl, v628, rfl, hv628, hp629⟩
            show qr_W (qe L xs vb) (d + 3) qx_e90 _ (191, _, [.int (qz v628), .int (qz 6), .ref 59], qw σ α622 κ ρ, 0, 0)
            refine qr_iastore 192 rfl (by decide) rfl (by decide) (by decide) rfl ?_
            refine qy_wA (qw_r α622 59 (qzu (α622 59) (6 : Int).toNat v628)) rfl (fun α630 e631 => ?_)
            have hI632 : qI σ α630 κ ρ := by rw [e631]; exact qI_r hI624 59 _ rfl (show (-2147483648) ≤ v628 ∧ v628 ≤ 2147483647 by omega)
            have hF633 : qFr [] [53, 57, 59, 60, 61, 62, 63, 85] σ α σ α630 := by rw [e631]; exact qFr_r hF625 59 _ (by decide)
            have hy634 : qSt σ α630 := qSt_c rfl (by rw [e631]; exact qw_r_ne (by decide)) (by rw [e631]; exact qw_r_ne (by decide)) hy626
            refine qr_aload_n 193 rfl g614 rfl ?_
            refine qr_get 196 rfl rfl rfl (by decide) rfl ?_
            refine qr_bipush 198 rfl (by decide) rfl ?_
            refine qr_iload 200 rfl g617 rfl ?_
            refine qr_iconst 201 rfl rfl ?_
            have hJ642 : ∀ (ls : qm_L) (u640 : Int), qm_get ls 0 = some (.ref 58) → qm_get ls 7 = some (.ref 82) → (0 ≤ u640 ∧ u640 ≤ 9) → qr_W (qe L xs vb) (d + 3) qx_e90 (fun r w' => ∃ α', w' = qw σ α' κ ρ ∧ qI σ α' κ ρ ∧ qFr [] [53, 57, 59, 60, 61, 62, 63, 85] σ α σ α' ∧ ∃ v : Int, r = some (.int (qz v)) ∧ ((-2147483648) ≤ v ∧ v ≤ 2147483647) ∧ qSt σ α') (223, ls, [.int (qz u640), .int (qz 8), .ref 59], qw σ α630 κ ρ, 0, 0) := by
              intro ls u640 g638 g639 hf641
              refine qr_iastore 224 rfl (by decide) rfl (by decide) (by decide) rfl ?_
              refine qy_wA (qw_r α630 59 (qzu (α630 59) (8 : Int).toNat u640)) rfl (fun α643 e644 => ?_)
              have hI645 : qI σ α643 κ ρ := by rw [e644]; exact qI_r hI632 59 _ rfl (show (-2147483648) ≤ u640 ∧ u640 ≤ 2147483647 by omega)
              have hF646 : qFr [] [53, 57, 59, 60, 61, 62, 63, 85] σ α σ α643 := by rw [e644]; exact qFr_r hF633 59 _ (by decide)
              have hy647 : qSt σ α643 := qSt_c rfl (by rw [e644]; exact qw_r_ne (by decide)) (by rw [e644]; exact qw_r_ne (by decide)) hy634
              refine qr_aload 226 rfl g639 rfl ?_
              refine qr_aload_n 227 rfl g638 rfl ?_
              refine qr_get 230 rfl rfl rfl (by decide) rfl ?_
              refine qr_callN 233 rfl rfl rfl (sf_97_82_59 (d := d + 1) hI645 ) ?_
              rintro _ _ ⟨α649, rfl, hI650, hG651, v648, rfl, hv648⟩
              have hF652 : qFr [] [53, 57, 59, 60, 61, 62, 63, 85] σ α σ α649 := qFr_t hF646 hG651 (by decide) (by decide)
              have hy653 := qSt_fr hG651 (by decide) (by decide) hy647
              show qr_W (qe L xs vb) (d + 3) qx_e90 _ (233, _, [.int (qz v648)], qw σ α649 κ ρ, 0, 0)
              refine qr_retI rfl rfl (by decide) (by decide) ?_
              exact ⟨_, rfl, hI650, hF652, v648, rfl, hv648, hy653⟩
            refine qr_icmp_ne 208 204 rfl rfl rfl (qrg r4 (by decide) (by decide)) (by decide) (fun h654 => ?_) (fun h654 => ?_)
            · skip
              refine qr_aload_n 209 rfl g614 rfl ?_
              refine qr_get 212 rfl rfl rfl (by decide) rfl ?_
              refine qr_iload_n 213 rfl g615 rfl ?_
              refine qr_iload 215 rfl g617 rfl ?_
              refine qr_callN 218 rfl rfl rfl (sf_57_23 (d := d + 2) hI632 r2 (by omega)) ?_
              rintro _ _ ⟨rfl, v655, rfl, hv655⟩
              show qr_W (qe L xs vb) (d + 3) qx_e90 _ (218, _, [.int (qz v655), .int (qz 8), .ref 59], qw σ α630 κ ρ, 0, 0)
              refine qr_bipush 220 rfl (by decide) rfl ?_
              refine qr_callN 223 rfl rfl rfl (sf_12 (d := d + 2) hI632 (qrg hv655 (by decide) (by decide)) (by decide)) ?_
              rintro _ _ ⟨rfl, v656, rfl, hv656, hp657⟩
              show qr_W (qe L xs vb) (d + 3) qx_e90 _ (223, _, [.int (qz v656), .int (qz 8), .ref 59], qw σ α630 κ ρ, 0, 0)
              exact hJ642 _ v656 g614 g618 (by omega)
            · skip
              refine qr_iconst 205 rfl rfl ?_
              refine qr_goto 223 rfl rfl ?_
              exact hJ642 _ 0 g614 g618 (by decide)
          refine qr_if_eq 169 165 rfl rfl rfl (qrg hv613 (by decide) (by decide)) (fun h658 => ?_) (fun h658 => ?_)
          · skip
            refine qr_iconst 170 rfl rfl ?_
            exact hJ621 _ 0 g586 g587 g588 g589 g590 (by decide)
          · skip
            refine qr_iconst 166 rfl rfl ?_
            refine qr_goto 170 rfl rfl ?_
            exact hJ621 _ 1 g586 g587 g588 g589 g590 (by decide)
        refine qr_if_eq 114 97 rfl rfl rfl (qrg hv579 (by decide) (by decide)) (fun h659 => ?_) (fun h659 => ?_)
        · skip
          exact hJ596 _ α574 g567 g568 g569 g570 g572 hI575 hF576 hx577
        · skip
          refine qr_aload_n 98 rfl g567 rfl ?_
          refine qr_get 101 rfl rfl rfl (by decide) rfl ?_
          refine qr_bipush 103 rfl (by decide) rfl ?_
          refine qr_aload_n 104 rfl g567 rfl ?_
          refine qr_get 107 rfl rfl rfl (by decide) rfl ?_
          refine qr_iload_n 108 rfl g568 rfl ?_
          refine qr_lload 110 rfl g571 rfl ?_
          refine qr_callN 113 rfl rfl rfl (sf_95_17 (d := d + 1) hI575 r2 r5) ?_
          rintro _ _ ⟨rfl, v660, rfl, hv660⟩
          show qr_W (qe L xs vb) (d + 3) qx_e90 _ (113, _, [.int (qz v660), .int (qz 7), .ref 59], qw σ α574 κ ρ, 0, 0)
          refine qr_iastore 114 rfl (by decide) rfl (by decide) (by decide) rfl ?_
          refine qy_wA (qw_r α574 59 (qzu (α574 59) (7 : Int).toNat v660)) rfl (fun α661 e662 => ?_)
          have hI663 : qI σ α661 κ ρ := by rw [e662]; exact qI_r hI575 59 _ rfl (show (-2147483648) ≤ v660 ∧ v660 ≤ 2147483647 by omega)
          have hF664 : qFr [] [53, 57, 59, 60, 61, 62, 63, 85] σ α σ α661 := by rw [e662]; exact qFr_r hF576 59 _ (by decide)
          have hy665 : qSt σ α661 := qSt_c rfl (by rw [e662]; exact qw_r_ne (by decide)) (by rw [e662]; exact qw_r_ne (by decide)) hx577
          exact hJ596 _ α661 g567 g568 g569 g570 g572 hI663 hF664 hy665
      refine qr_if_eq 87 72 rfl rfl rfl (qrg hv554 (by decide) (by decide)) (fun h666 => ?_) (fun h666 => ?_)
      · skip
        exact hJ578 _ α549 g542 g543 g544 g545 g546 g547 hI550 hF551 hx552
      · skip
        refine qr_aload_n 73 rfl g542 rfl ?_
        refine qr_get 76 rfl rfl rfl (by decide) rfl ?_
        refine qr_iconst 77 rfl rfl ?_
        refine qr_aload_n 78 rfl g542 rfl ?_
        refine qr_iload_n 79 rfl g543 rfl ?_
        refine qr_iload_n 80 rfl g544 rfl ?_
        refine qr_callN 83 rfl rfl rfl (sf_94_58s (d := d + 0) hI550 r2 r3 (by omega) hx552) ?_
        rintro _ _ ⟨α669, rfl, hI670, hG671, v667, rfl, hv667, hx668⟩
        have hF672 : qFr [] [53, 57, 59, 60, 61, 62, 63, 85] σ α σ α669 := qFr_t hF551 hG671 (by decide) (by decide)
        show qr_W (qe L xs vb) (d + 3) qx_e90 _ (83, _, [.long (ql v667), .int (qz 2), .ref 59], qw σ α669 κ ρ, 0, 0)
        refine qr_callN 86 rfl rfl rfl (sf_74 (d := d + 2) hI670 hv667) ?_
        rintro _ _ ⟨rfl, v673, rfl, hv673⟩
        show qr_W (qe L xs vb) (d + 3) qx_e90 _ (86, _, [.int (qz v673), .int (qz 2), .ref 59], qw σ α669 κ ρ, 0, 0)
        refine qr_iastore 87 rfl (by decide) rfl (by decide) (by decide) rfl ?_
        refine qy_wA (qw_r α669 59 (qzu (α669 59) (2 : Int).toNat v673)) rfl (fun α674 e675 => ?_)
        have hI676 : qI σ α674 κ ρ := by rw [e675]; exact qI_r hI670 59 _ rfl (show (-2147483648) ≤ v673 ∧ v673 ≤ 2147483647 by omega)
        have hF677 : qFr [] [53, 57, 59, 60, 61, 62, 63, 85] σ α σ α674 := by rw [e675]; exact qFr_r hF672 59 _ (by decide)
        have hy678 : qSt σ α674 := qSt_c rfl (by rw [e675]; exact qw_r_ne (by decide)) (by rw [e675]; exact qw_r_ne (by decide)) hx668
        exact hJ578 _ α674 g542 g543 g544 g545 g546 g547 hI676 hF677 hy678
    refine qr_if_ne 26 17 rfl rfl rfl (qrg hv492 (by decide) (by decide)) (fun h679 => ?_) (fun h679 => ?_)
    · skip
      refine qr_aload_n 27 rfl rfl rfl ?_
      refine qr_iload_n 28 rfl rfl rfl ?_
      refine qr_iload_n 29 rfl rfl rfl ?_
      refine qr_callN 32 rfl rfl rfl (sf_92_58s (d := d + 0) hI r2 r3 (by omega) p1) ?_
      rintro _ _ ⟨α682, rfl, hI683, hG684, v680, rfl, hv680, hx681⟩
      have hF685 : qFr [] [53, 57, 59, 60, 61, 62, 63, 85] σ α σ α682 := qFr_t hF0 hG684 (by decide) (by decide)
      show qr_W (qe L xs vb) (d + 3) qx_e90 _ (32, _, [.int (qz v680)], qw σ α682 κ ρ, 0, 0)
      refine qr_bipush 34 rfl (by decide) rfl ?_
      refine qr_idiv 35 rfl (qrg hv680 (by decide) (by decide)) (by decide) rfl ?_
      refine qr_istore _ 37 rfl (by decide) rfl rfl ?_
      refine qr_aload_n 38 rfl rfl rfl ?_
      refine qr_get 41 rfl rfl rfl (by decide) rfl ?_
      refine qr_iconst 42 rfl rfl ?_
      refine qr_iload 44 rfl rfl rfl ?_
      refine qr_bipush 46 rfl (by decide) rfl ?_
      have hJ695 : ∀ (ls : qm_L) (u693 : Int), qm_get ls 0 = some (.ref 58) → qm_get ls 2 = some (.int (qz x2)) → qm_get ls 3 = some (.int (qz x3)) → qm_get ls 4 = some (.int (qz x4)) → qm_get ls 5 = some (.long (ql x5)) → qm_get ls 7 = some (.ref 82) → qm_get ls 8 = some (.int (qz (v680 / 64))) → (0 ≤ u693 ∧ u693 ≤ 1) → qr_W (qe L xs vb) (d + 3) qx_e90 (fun r w' => ∃ α', w' = qw σ α' κ ρ ∧ qI σ α' κ ρ ∧ qFr [] [53, 57, 59, 60, 61, 62, 63, 85] σ α σ α' ∧ ∃ v : Int, r = some (.int (qz v)) ∧ ((-2147483648) ≤ v ∧ v ≤ 2147483647) ∧ qSt σ α') (54, ls, [.int (qz u693), .int (qz 0), .ref 59], qw σ α682 κ ρ, 0, 0) := by
        intro ls u693 g686 g687 g688 g689 g690 g691 g692 hf694
        refine qr_iastore 55 rfl (by decide) rfl (by decide) (by decide) rfl ?_
        refine qy_wA (qw_r α682 59 (qzu (α682 59) (0 : Int).toNat u693)) rfl (fun α696 e697 => ?_)
        have hI698 : qI σ α696 κ ρ := by rw [e697]; exact qI_r hI683 59 _ rfl (show (-2147483648) ≤ u693 ∧ u693 ≤ 2147483647 by omega)
        have hF699 : qFr [] [53, 57, 59, 60, 61, 62, 63, 85] σ α σ α696 := by rw [e697]; exact qFr_r hF685 59 _ (by decide)
        have hy700 : qSt σ α696 := qSt_c rfl (by rw [e697]; exact qw_r_ne (by decide)) (by rw [e697]; exact qw_r_ne (by decide)) hx681
        refine qr_aload_n 56 rfl g686 rfl ?_
        refine qr_get 59 rfl rfl rfl (by decide) rfl ?_
        refine qr_iconst 60 rfl rfl ?_
        refine qr_iload 62 rfl g692 rfl ?_
        refine qr_iastore 63 rfl (by decide) rfl (by decide) (by decide) rfl ?_
        refine qy_wA (qw_r α696 59 (qzu (α696 59) (1 : Int).toNat (v680 / 64))) rfl (fun α701 e702 => ?_)
        have hI703 : qI σ α701 κ ρ := by rw [e702]; exact qI_r hI698 59 _ rfl (show (-2147483648) ≤ (v680 / 64) ∧ (v680 / 64) ≤ 2147483647 by omega)
        have hF704 : qFr [] [53, 57, 59, 60, 61, 62, 63, 85] σ α σ α701 := by rw [e702]; exact qFr_r hF699 59 _ (by decide)
        have hy705 : qSt σ α701 := qSt_c rfl (by rw [e702]; exact qw_r_ne (by decide)) (by rw [e702]; exact qw_r_ne (by decide)) hy700
        exact hJ553 _ α701 g686 g687 g688 g689 g690 g691 hI703 hF704 hy705
      refine qr_icmp_ge 53 49 rfl rfl rfl (by omega) (by decide) (fun h706 => ?_) (fun h706 => ?_)
      · skip
        refine qr_iconst 54 rfl rfl ?_
        exact hJ695 _ 0 rfl rfl rfl rfl rfl rfl rfl (by decide)
      · skip
        refine qr_iconst 50 rfl rfl ?_
        refine qr_goto 54 rfl rfl ?_
        exact hJ695 _ 1 rfl rfl rfl rfl rfl rfl rfl (by decide)
    · skip
      refine qr_aload 19 rfl rfl rfl ?_
      refine qr_iconst 20 rfl rfl ?_
      refine qr_callN 23 rfl rfl rfl (sf_91_82 (d := d + 1) hI (by decide)) ?_
      rintro _ _ ⟨rfl, v707, rfl, hv707⟩
      show qr_W (qe L xs vb) (d + 3) qx_e90 _ (23, _, [.int (qz v707)], qw σ α κ ρ, 0, 0)
      refine qr_if_eq 63 26 rfl rfl rfl (qrg hv707 (by decide) (by decide)) (fun h708 => ?_) (fun h708 => ?_)
      · skip
        exact hJ553 _ α rfl rfl rfl rfl rfl rfl hI hF0 p1
      · skip
        refine qr_aload_n 27 rfl rfl rfl ?_
        refine qr_iload_n 28 rfl rfl rfl ?_
        refine qr_iload_n 29 rfl rfl rfl ?_
        refine qr_callN 32 rfl rfl rfl (sf_92_58s (d := d + 0) hI r2 r3 (by omega) p1) ?_
        rintro _ _ ⟨α711, rfl, hI712, hG713, v709, rfl, hv709, hx710⟩
        have hF714 : qFr [] [53, 57, 59, 60, 61, 62, 63, 85] σ α σ α711 := qFr_t hF0 hG713 (by decide) (by decide)
        show qr_W (qe L xs vb) (d + 3) qx_e90 _ (32, _, [.int (qz v709)], qw σ α711 κ ρ, 0, 0)
        refine qr_bipush 34 rfl (by decide) rfl ?_
        refine qr_idiv 35 rfl (qrg hv709 (by decide) (by decide)) (by decide) rfl ?_
        refine qr_istore _ 37 rfl (by decide) rfl rfl ?_
        refine qr_aload_n 38 rfl rfl rfl ?_
        refine qr_get 41 rfl rfl rfl (by decide) rfl ?_
        refine qr_iconst 42 rfl rfl ?_
        refine qr_iload 44 rfl rfl rfl ?_
        refine qr_bipush 46 rfl (by decide) rfl ?_
        have hJ724 : ∀ (ls : qm_L) (u722 : Int), qm_get ls 0 = some (.ref 58) → qm_get ls 2 = some (.int (qz x2)) → qm_get ls 3 = some (.int (qz x3)) → qm_get ls 4 = some (.int (qz x4)) → qm_get ls 5 = some (.long (ql x5)) → qm_get ls 7 = some (.ref 82) → qm_get ls 8 = some (.int (qz (v709 / 64))) → (0 ≤ u722 ∧ u722 ≤ 1) → qr_W (qe L xs vb) (d + 3) qx_e90 (fun r w' => ∃ α', w' = qw σ α' κ ρ ∧ qI σ α' κ ρ ∧ qFr [] [53, 57, 59, 60, 61, 62, 63, 85] σ α σ α' ∧ ∃ v : Int, r = some (.int (qz v)) ∧ ((-2147483648) ≤ v ∧ v ≤ 2147483647) ∧ qSt σ α') (54, ls, [.int (qz u722), .int (qz 0), .ref 59], qw σ α711 κ ρ, 0, 0) := by
          intro ls u722 g715 g716 g717 g718 g719 g720 g721 hf723
          refine qr_iastore 55 rfl (by decide) rfl (by decide) (by decide) rfl ?_
          refine qy_wA (qw_r α711 59 (qzu (α711 59) (0 : Int).toNat u722)) rfl (fun α725 e726 => ?_)
          have hI727 : qI σ α725 κ ρ := by rw [e726]; exact qI_r hI712 59 _ rfl (show (-2147483648) ≤ u722 ∧ u722 ≤ 2147483647 by omega)
          have hF728 : qFr [] [53, 57, 59, 60, 61, 62, 63, 85] σ α σ α725 := by rw [e726]; exact qFr_r hF714 59 _ (by decide)
          have hy729 : qSt σ α725 := qSt_c rfl (by rw [e726]; exact qw_r_ne (by decide)) (by rw [e726]; exact qw_r_ne (by decide)) hx710
          refine qr_aload_n 56 rfl g715 rfl ?_
          refine qr_get 59 rfl rfl rfl (by decide) rfl ?_
          refine qr_iconst 60 rfl rfl ?_
          refine qr_iload 62 rfl g721 rfl ?_
          refine qr_iastore 63 rfl (by decide) rfl (by decide) (by decide) rfl ?_
          refine qy_wA (qw_r α725 59 (qzu (α725 59) (1 : Int).toNat (v709 / 64))) rfl (fun α730 e731 => ?_)
          have hI732 : qI σ α730 κ ρ := by rw [e731]; exact qI_r hI727 59 _ rfl (show (-2147483648) ≤ (v709 / 64) ∧ (v709 / 64) ≤ 2147483647 by omega)
          have hF733 : qFr [] [53, 57, 59, 60, 61, 62, 63, 85] σ α σ α730 := by rw [e731]; exact qFr_r hF728 59 _ (by decide)
          have hy734 : qSt σ α730 := qSt_c rfl (by rw [e731]; exact qw_r_ne (by decide)) (by rw [e731]; exact qw_r_ne (by decide)) hy729
          exact hJ553 _ α730 g715 g716 g717 g718 g719 g720 hI732 hF733 hy734
        refine qr_icmp_ge 53 49 rfl rfl rfl (by omega) (by decide) (fun h735 => ?_) (fun h735 => ?_)
        · skip
          refine qr_iconst 54 rfl rfl ?_
          exact hJ724 _ 0 rfl rfl rfl rfl rfl rfl rfl (by decide)
        · skip
          refine qr_iconst 50 rfl rfl ?_
          refine qr_goto 54 rfl rfl ?_
          exact hJ724 _ 1 rfl rfl rfl rfl rfl rfl rfl (by decide)

set_option maxHeartbeats 4000000 in
set_option maxRecDepth 20000 in
/-- OneRoof$Moment.firstStrike -/
theorem sf_104_58s {L : Nat} {xs : Nat → Int} {vb : Bool} {d : Nat} {σ α : Nat → Nat → Int} {κ : Nat → Option Nat} {ρ : Nat} {x1 : Int} (hI : qI σ α κ ρ) (r1 : (-9223372036854775808) ≤ x1 ∧ x1 ≤ 9223372036854775807) (p0 : qSt σ α) : qm_T (qe L xs vb) (d + 5) 104 [.ref 58, .long (ql x1)] (qw σ α κ ρ) (fun r w' => ∃ α', w' = qw σ α' κ ρ ∧ qI σ α' κ ρ ∧ qFr [] [53, 57, 59, 60, 61, 62, 63, 85] σ α σ α' ∧ ∃ v : Int, r = some (.int (qz v)) ∧ ((-1) ≤ v ∧ v ≤ 3131) ∧ (v = -1 ∨ (0 ≤ v ∧ v / 100 ≤ 31 ∧ v % 100 ≤ 31 ∧ ¬ v / 100 = v % 100)) ∧ qSt σ α') := by
  refine qr_start (d := d + 4) qv_e104 (Nat.le_of_ble_eq_true rfl) ?_
  show qr_W (qe L xs vb) (d + 4) qx_e104 _ (0, [(0, .ref 58), (1, .long (ql x1))], [], _, 0, 0)
  have hF0 := qFr_rf [] [53, 57, 59, 60, 61, 62, 63, 85] σ α
  refine qr_iconst 1 rfl rfl ?_
  refine qr_istore_n _ 2 rfl (by decide) rfl rfl ?_
  have hL2734 : ∀ (n : Nat) (ls : qm_L) (u2727 : Int) (α2729 : Nat → Nat → Int), 32 - u2727 < (n : Int) → qm_get ls 0 = some (.ref 58) → qm_get ls 1 = some (.long (ql x1)) → qm_get ls 3 = some (.int (qz u2727)) → (0 ≤ u2727 ∧ u2727 ≤ 32) → qI σ α2729 κ ρ → qFr [] [53, 57, 59, 60, 61, 62, 63, 85] σ α σ α2729 → qSt σ α2729 → qr_W (qe L xs vb) (d + 4) qx_e104 (fun r w' => ∃ α', w' = qw σ α' κ ρ ∧ qI σ α' κ ρ ∧ qFr [] [53, 57, 59, 60, 61, 62, 63, 85] σ α σ α' ∧ ∃ v : Int, r = some (.int (qz v)) ∧ ((-1) ≤ v ∧ v ≤ 3131) ∧ (v = -1 ∨ (0 ≤ v ∧ v / 100 ≤ 31 ∧ v % 100 ≤ 31 ∧ ¬ v / 100 = v % 100)) ∧ qSt σ α') (2, ls, [], qw σ α2729 κ ρ, 0, 0) := by
    intro n
    induction n with
    | zero => intro ls u2727 α2729 hm g2724 g2725 g2726 hf2732 hI2730 hF2731 hx2733; exact False.elim (by omega)
    | succ n ih2735 =>
      intro ls u2727 α2729 hm g2724 g2725 g2726 hf2732 hI2730 hF2731 hx2733
      refine qr_iload_n 3 rfl g2726 rfl ?_
      refine qr_aload_n 4 rfl g2724 rfl ?_
      refine qr_get 7 rfl rfl rfl (by decide) rfl ?_
      refine qr_get 10 rfl rfl rfl (by decide) rfl ?_
      have hs2736 : 0 ≤ σ 17 6 ∧ σ 17 6 ≤ 32 := hI2730.1 17 6
      refine qr_icmp_ge 87 13 rfl rfl rfl (qrg hf2732 (by decide) (by decide)) (qrg hs2736 (by decide) (by decide)) (fun h2737 => ?_) (fun h2737 => ?_)
      · skip
        refine qr_iconst 88 rfl rfl ?_
        refine qr_retI rfl rfl (by decide) (by decide) ?_
        exact ⟨_, rfl, hI2730, hF2731, (-1), rfl, (by decide), by omega, hx2733⟩
      · skip
        refine qr_lload_n 14 rfl g2725 rfl ?_
        refine qr_iload_n 15 rfl g2726 rfl ?_
        refine qr_callN 18 rfl rfl rfl (sf_50 (d := d + 3) hI2730 r1 (qrg hf2732 (by decide) (by decide))) ?_
        rintro _ _ ⟨rfl, v2738, rfl, hv2738⟩
        show qr_W (qe L xs vb) (d + 4) qx_e104 _ (18, _, [.int (qz v2738)], qw σ α2729 κ ρ, 0, 0)
        refine qr_if_ne 24 21 rfl rfl rfl (qrg hv2738 (by decide) (by decide)) (fun h2739 => ?_) (fun h2739 => ?_)
        · skip
          refine qr_iconst 25 rfl rfl ?_
          refine qr_istore _ 27 rfl (by decide) rfl rfl ?_
          have hL2916 : ∀ (n : Nat) (ls : qm_L) (u2909 : Int) (α2911 : Nat → Nat → Int), 32 - u2909 < (n : Int) → qm_get ls 0 = some (.ref 58) → qm_get ls 1 = some (.long (ql x1)) → qm_get ls 3 = some (.int (qz u2727)) → qm_get ls 4 = some (.int (qz u2909)) → (0 ≤ u2909 ∧ u2909 ≤ 32) → qI σ α2911 κ ρ → qFr [] [53, 57, 59, 60, 61, 62, 63, 85] σ α σ α2911 → qSt σ α2911 → qr_W (qe L xs vb) (d + 4) qx_e104 (fun r w' => ∃ α', w' = qw σ α' κ ρ ∧ qI σ α' κ ρ ∧ qFr [] [53, 57, 59, 60, 61, 62, 63, 85] σ α σ α' ∧ ∃ v : Int, r = some (.int (qz v)) ∧ ((-1) ≤ v ∧ v ≤ 3131) ∧ (v = -1 ∨ (0 ≤ v ∧ v / 100 ≤ 31 ∧ v % 100 ≤ 31 ∧ ¬ v / 100 = v % 100)) ∧ qSt σ α') (27, ls, [], qw σ α2911 κ ρ, 0, 0) := by
            intro n
            induction n with
            | zero => intro ls u2909 α2911 hm g2905 g2906 g2907 g2908 hf2914 hI2912 hF2913 hx2915; exact False.elim (by omega)
            | succ n ih2917 =>
              intro ls u2909 α2911 hm g2905 g2906 g2907 g2908 hf2914 hI2912 hF2913 hx2915
              refine qr_iload 29 rfl g2908 rfl ?_
              refine qr_aload_n 30 rfl g2905 rfl ?_
              refine qr_get 33 rfl rfl rfl (by decide) rfl ?_
              refine qr_get 36 rfl rfl rfl (by decide) rfl ?_
              refine qr_icmp_ge 81 39 rfl rfl rfl (qrg hf2914 (by decide) (by decide)) (qrg hs2736 (by decide) (by decide)) (fun h2918 => ?_) (fun h2918 => ?_)
              · skip
                refine qr_iinc _ 84 rfl g2907 (by decide) rfl rfl ?_
                refine qr_goto 2 rfl rfl ?_
                exact ih2735 _ (u2727 + 1) α2911 (by omega) (qm_gk g2905 (by decide) (Or.inl (by decide))) (qm_gk g2906 (by decide) (Or.inl (by decide))) (qm_ge _ _ _) (by omega) hI2912 hF2913 hx2915
              · skip
                refine qr_iload_n 40 rfl g2907 rfl ?_
                refine qr_iload 42 rfl g2908 rfl ?_
                refine qr_icmp_eq 75 45 rfl rfl rfl (qrg hf2732 (by decide) (by decide)) (qrg hf2914 (by decide) (by decide)) (fun h2919 => ?_) (fun h2919 => ?_)
                · skip
                  refine qr_iinc _ 78 rfl g2908 (by decide) rfl rfl ?_
                  refine qr_goto 27 rfl rfl ?_
                  exact ih2917 _ (u2909 + 1) α2911 (by omega) (qm_gk g2905 (by decide) (Or.inl (by decide))) (qm_gk g2906 (by decide) (Or.inl (by decide))) (qm_gk g2907 (by decide) (Or.inr rfl)) (qm_ge _ _ _) (by omega) hI2912 hF2913 hx2915
                · skip
                  refine qr_lload_n 46 rfl g2906 rfl ?_
                  refine qr_iload 48 rfl g2908 rfl ?_
                  refine qr_callN 51 rfl rfl rfl (sf_50 (d := d + 3) hI2912 r1 (qrg hf2914 (by decide) (by decide))) ?_
                  rintro _ _ ⟨rfl, v2920, rfl, hv2920⟩
                  show qr_W (qe L xs vb) (d + 4) qx_e104 _ (51, _, [.int (qz v2920)], qw σ α2911 κ ρ, 0, 0)
                  refine qr_if_eq 75 54 rfl rfl rfl (qrg hv2920 (by decide) (by decide)) (fun h2921 => ?_) (fun h2921 => ?_)
                  · skip
                    refine qr_iinc _ 78 rfl g2908 (by decide) rfl rfl ?_
                    refine qr_goto 27 rfl rfl ?_
                    exact ih2917 _ (u2909 + 1) α2911 (by omega) (qm_gk g2905 (by decide) (Or.inl (by decide))) (qm_gk g2906 (by decide) (Or.inl (by decide))) (qm_gk g2907 (by decide) (Or.inr rfl)) (qm_ge _ _ _) (by omega) hI2912 hF2913 hx2915
                  · skip
                    refine qr_aload_n 55 rfl g2905 rfl ?_
                    refine qr_iconst 56 rfl rfl ?_
                    refine qr_iload_n 57 rfl g2907 rfl ?_
                    refine qr_iload 59 rfl g2908 rfl ?_
                    refine qr_iconst 60 rfl rfl ?_
                    refine qr_lload_n 61 rfl g2906 rfl ?_
                    refine qr_callN 64 rfl rfl rfl (sf_90_58s (d := d + 0) hI2912 (by decide) (by omega) (by omega) (by decide) r1 (by omega) hx2915) ?_
                    rintro _ _ ⟨α2924, rfl, hI2925, hG2926, v2922, rfl, hv2922, hx2923⟩
                    have hF2927 : qFr [] [53, 57, 59, 60, 61, 62, 63, 85] σ α σ α2924 := qFr_t hF2913 hG2926 (by decide) (by decide)
                    show qr_W (qe L xs vb) (d + 4) qx_e104 _ (64, _, [.int (qz v2922)], qw σ α2924 κ ρ, 0, 0)
                    refine qr_if_eq 75 67 rfl rfl rfl hv2922 (fun h2928 => ?_) (fun h2928 => ?_)
                    · skip
                      refine qr_iinc _ 78 rfl g2908 (by decide) rfl rfl ?_
                      refine qr_goto 27 rfl rfl ?_
                      exact ih2917 _ (u2909 + 1) α2924 (by omega) (qm_gk g2905 (by decide) (Or.inl (by decide))) (qm_gk g2906 (by decide) (Or.inl (by decide))) (qm_gk g2907 (by decide) (Or.inr rfl)) (qm_ge _ _ _) (by omega) hI2925 hF2927 hx2923
                    · skip
                      refine qr_bipush 69 rfl (by decide) rfl ?_
                      refine qr_iload_n 70 rfl g2907 rfl ?_
                      refine qr_imul 71 rfl rfl ?_
                      refine qr_iload 73 rfl g2908 rfl ?_
                      refine qr_iadd 74 rfl rfl ?_
                      refine qr_retI rfl rfl (by decide) (by decide) ?_
                      exact ⟨_, rfl, hI2925, hF2927, ((100 * u2727) + u2909), rfl, (by omega), by omega, hx2923⟩
          exact hL2916 ((32 - 0 + 1 : Int)).toNat _ 0 α2729 (by omega) (qm_gk g2724 (by decide) (Or.inl (by decide))) (qm_gk g2725 (by decide) (Or.inl (by decide))) (qm_gk g2726 (by decide) (Or.inr rfl)) (qm_ge _ _ _) (by decide) hI2730 hF2731 hx2733
        · skip
          refine qr_goto 81 rfl rfl ?_
          refine qr_iinc _ 84 rfl g2726 (by decide) rfl rfl ?_
          refine qr_goto 2 rfl rfl ?_
          exact ih2735 _ (u2727 + 1) α2729 (by omega) (qm_gk g2724 (by decide) (Or.inl (by decide))) (qm_gk g2725 (by decide) (Or.inl (by decide))) (qm_ge _ _ _) (by omega) hI2730 hF2731 hx2733
  exact hL2734 ((32 - 0 + 1 : Int)).toNat _ 0 α (by omega) rfl rfl rfl (by decide) hI hF0 p0

set_option maxHeartbeats 4000000 in
set_option maxRecDepth 20000 in
/-- OneRoof$Moment.mustAlone -/
theorem sf_107_58s {L : Nat} {xs : Nat → Int} {vb : Bool} {d : Nat} {σ α : Nat → Nat → Int} {κ : Nat → Option Nat} {ρ : Nat} {x1 : Int} {x2 : Int} (hI : qI σ α κ ρ) (r1 : 0 ≤ x1 ∧ x1 ≤ 31) (r2 : 0 ≤ x2 ∧ x2 ≤ 31) (p0 : ¬ x1 = x2) (p1 : qSt σ α) : qm_T (qe L xs vb) (d + 5) 107 [.ref 58, .int (qz x1), .int (qz x2)] (qw σ α κ ρ) (fun r w' => ∃ α', w' = qw σ α' κ ρ ∧ qI σ α' κ ρ ∧ qFr [] [53, 57, 59, 60, 61, 62, 63, 85] σ α σ α' ∧ ∃ v : Int, r = some (.int (qz v)) ∧ (0 ≤ v ∧ v ≤ 1) ∧ qSt σ α') := by
  refine qr_start (d := d + 4) qv_e107 (Nat.le_of_ble_eq_true rfl) ?_
  show qr_W (qe L xs vb) (d + 4) qx_e107 _ (0, [(0, .ref 58), (1, .int (qz x1)), (2, .int (qz x2))], [], _, 0, 0)
  have hF0 := qFr_rf [] [53, 57, 59, 60, 61, 62, 63, 85] σ α
  refine qr_aload_n 1 rfl rfl rfl ?_
  refine qr_iconst 2 rfl rfl ?_
  refine qr_iload_n 3 rfl rfl rfl ?_
  refine qr_iload_n 4 rfl rfl rfl ?_
  refine qr_iconst 5 rfl rfl ?_
  refine qr_lconst 6 rfl rfl ?_
  refine qy_vl 1 rfl ?_
  refine qr_iload_n 7 rfl rfl rfl ?_
  refine qr_lshl 8 rfl rfl ?_
  refine qy_canl (fun v1 hv1 => ?_)
  refine qr_lconst 9 rfl rfl ?_
  refine qy_vl 1 rfl ?_
  refine qr_iload_n 10 rfl rfl rfl ?_
  refine qr_lshl 11 rfl rfl ?_
  refine qy_canl (fun v2 hv2 => ?_)
  refine qr_lor 12 rfl rfl ?_
  refine qy_canl (fun v3 hv3 => ?_)
  refine qr_callN 15 rfl rfl rfl (sf_90_58s (d := d + 0) hI (by decide) r1 r2 (by decide) hv3 (by omega) p1) ?_
  rintro _ _ ⟨α6, rfl, hI7, hG8, v4, rfl, hv4, hx5⟩
  have hF9 : qFr [] [53, 57, 59, 60, 61, 62, 63, 85] σ α σ α6 := qFr_t hF0 hG8 (by decide) (by decide)
  show qr_W (qe L xs vb) (d + 4) qx_e107 _ (15, _, [.int (qz v4)], qw σ α6 κ ρ, 0, 0)
  refine qr_if_eq 22 18 rfl rfl rfl hv4 (fun h10 => ?_) (fun h10 => ?_)
  · skip
    refine qr_iconst 23 rfl rfl ?_
    refine qr_retZ rfl rfl (Or.inl rfl) (by decide) (by decide) ?_
    exact ⟨_, rfl, hI7, hF9, 0, rfl, (by decide), hx5⟩
  · skip
    refine qr_iconst 19 rfl rfl ?_
    refine qr_goto 23 rfl rfl ?_
    refine qr_retZ rfl rfl (Or.inr rfl) (by decide) (by decide) ?_
    exact ⟨_, rfl, hI7, hF9, 1, rfl, (by decide), hx5⟩

set_option maxHeartbeats 4000000 in
set_option maxRecDepth 20000 in
/-- OneRoof$Moment.barred -/
theorem sf_106_58s {L : Nat} {xs : Nat → Int} {vb : Bool} {d : Nat} {σ α : Nat → Nat → Int} {κ : Nat → Option Nat} {ρ : Nat} {x1 : Int} {x2 : Int} {x3 : Int} {x4 : Int} (hI : qI σ α κ ρ) (r1 : 0 ≤ x1 ∧ x1 ≤ 31) (r2 : 0 ≤ x2 ∧ x2 ≤ 31) (r3 : 0 ≤ x3 ∧ x3 ≤ 9999) (r4 : 0 ≤ x4 ∧ x4 ≤ 9999) (p0 : ¬ x1 = x2) (p1 : x4 - x3 ≤ 47) (p2 : qSt σ α) (p3 : 0 ≤ σ 58 12 ∧ σ 58 12 ≤ 1999999900) : qm_T (qe L xs vb) (d + 6) 106 [.ref 58, .int (qz x1), .int (qz x2), .int (qz x3), .int (qz x4)] (qw σ α κ ρ) (fun r w' => ∃ σ' α', w' = qw σ' α' κ ρ ∧ qI σ' α' κ ρ ∧ qFr [(58, 11), (58, 12)] [53, 57, 59, 60, 61, 62, 63, 85] σ α σ' α' ∧ σ' 58 12 ≤ σ 58 12 + 48 ∧ σ' 58 12 ≥ σ 58 12 ∧ ∃ v : Int, r = some (.int (qz v)) ∧ (0 ≤ v ∧ v ≤ 1) ∧ qSt σ' α') := by
  refine qr_start (d := d + 5) qv_e106 (Nat.le_of_ble_eq_true rfl) ?_
  show qr_W (qe L xs vb) (d + 5) qx_e106 _ (0, [(0, .ref 58), (1, .int (qz x1)), (2, .int (qz x2)), (3, .int (qz x3)), (4, .int (qz x4))], [], _, 0, 0)
  have hF0 := qFr_rf [(58, 11), (58, 12)] [53, 57, 59, 60, 61, 62, 63, 85] σ α
  have hz58_12 : (-2147483648) ≤ σ 58 12 ∧ σ 58 12 ≤ 2147483647 := hI.1 58 12
  refine qr_iload_n 1 rfl rfl rfl ?_
  refine qr_istore _ 3 rfl (by decide) rfl rfl ?_
  have hL243 : ∀ (n : Nat) (ls : qm_L) (u232 : Int) (σ233 α234 : Nat → Nat → Int), 10000 - u232 < (n : Int) → qm_get ls 0 = some (.ref 58) → qm_get ls 1 = some (.int (qz x1)) → qm_get ls 2 = some (.int (qz x2)) → qm_get ls 3 = some (.int (qz x3)) → qm_get ls 4 = some (.int (qz x4)) → qm_get ls 5 = some (.int (qz u232)) → (0 ≤ u232 ∧ u232 ≤ 10000) → qI σ233 α234 κ ρ → qFr [(58, 11), (58, 12)] [53, 57, 59, 60, 61, 62, 63, 85] σ α σ233 α234 → σ233 58 12 ≤ σ 58 12 + (u232 - x3) → σ 58 12 ≤ σ233 58 12 → (u232 = x3 ∨ u232 ≤ x4 + 1) → qSt σ233 α234 → x3 ≤ u232 → qr_W (qe L xs vb) (d + 5) qx_e106 (fun r w' => ∃ σ' α', w' = qw σ' α' κ ρ ∧ qI σ' α' κ ρ ∧ qFr [(58, 11), (58, 12)] [53, 57, 59, 60, 61, 62, 63, 85] σ α σ' α' ∧ σ' 58 12 ≤ σ 58 12 + 48 ∧ σ' 58 12 ≥ σ 58 12 ∧ ∃ v : Int, r = some (.int (qz v)) ∧ (0 ≤ v ∧ v ≤ 1) ∧ qSt σ' α') (3, ls, [], qw σ233 α234 κ ρ, 0, 0) := by
    intro n
    induction n with
    | zero => intro ls u232 σ233 α234 hm g226 g227 g228 g229 g230 g231 hf237 hI235 hF236 hx238 hx239 hx240 hx241 hx242; exact False.elim (by omega)
    | succ n ih244 =>
      intro ls u232 σ233 α234 hm g226 g227 g228 g229 g230 g231 hf237 hI235 hF236 hx238 hx239 hx240 hx241 hx242
      have hs245 : (-2147483648) ≤ σ233 58 12 ∧ σ233 58 12 ≤ 2147483647 := hI235.1 58 12
      refine qr_iload 5 rfl g231 rfl ?_
      refine qr_iload 7 rfl g230 rfl ?_
      refine qr_icmp_gt 60 10 rfl rfl rfl (qrg hf237 (by decide) (by decide)) (qrg r4 (by decide) (by decide)) (fun h246 => ?_) (fun h246 => ?_)
      · skip
        refine qr_iconst 61 rfl rfl ?_
        refine qr_retZ rfl rfl (Or.inl rfl) (by decide) (by decide) ?_
        exact ⟨_, _, rfl, hI235, hF236, (by have hw : σ233 58 12 = (σ233 58 12) := rfl; omega), (by have hw : σ233 58 12 = (σ233 58 12) := rfl; omega), 0, rfl, (by decide), hx241⟩
      · skip
        refine qr_iload 12 rfl g231 rfl ?_
        refine qr_iload_n 13 rfl g229 rfl ?_
        refine qr_icmp_le 28 16 rfl rfl rfl (qrg hf237 (by decide) (by decide)) (qrg r3 (by decide) (by decide)) (fun h247 => ?_) (fun h247 => ?_)
        · skip
          refine qr_aload_n 29 rfl g226 rfl ?_
          refine qr_iload 31 rfl g231 rfl ?_
          have hs248 : (-2147483648) ≤ σ233 58 12 ∧ σ233 58 12 ≤ 2147483647 := hI235.1 58 12
          refine qr_callN 34 rfl rfl rfl (sf_89_58s (d := d + 4) hI235 (qrg hf237 (by decide) (by decide)) hx241 (by omega)) ?_
          rintro _ _ ⟨σ251, rfl, hI252, hG253, hw250, rfl, hx249⟩
          have hF254 : qFr [(58, 11), (58, 12)] [53, 57, 59, 60, 61, 62, 63, 85] σ α σ251 α234 := qFr_t hF236 hG253 (by decide) (by decide)
          have hs255 : (-2147483648) ≤ σ251 58 12 ∧ σ251 58 12 ≤ 2147483647 := hI252.1 58 12
          show qr_W (qe L xs vb) (d + 5) qx_e106 _ (34, _, [], qw σ251 α234 κ ρ, 0, 0)
          refine qr_aload_n 35 rfl g226 rfl ?_
          refine qr_iload_n 36 rfl g227 rfl ?_
          refine qr_iload_n 37 rfl g228 rfl ?_
          refine qr_callN 40 rfl rfl rfl (sf_107_58s (d := d + 0) hI252 r1 r2 (by omega) hx249) ?_
          rintro _ _ ⟨α258, rfl, hI259, hG260, v256, rfl, hv256, hx257⟩
          have hF261 : qFr [(58, 11), (58, 12)] [53, 57, 59, 60, 61, 62, 63, 85] σ α σ251 α258 := qFr_t hF254 hG260 (by decide) (by decide)
          show qr_W (qe L xs vb) (d + 5) qx_e106 _ (40, _, [.int (qz v256)], qw σ251 α258 κ ρ, 0, 0)
          refine qr_if_ne 52 43 rfl rfl rfl (qrg hv256 (by decide) (by decide)) (fun h262 => ?_) (fun h262 => ?_)
          · skip
            refine qr_iconst 53 rfl rfl ?_
            refine qr_retZ rfl rfl (Or.inr rfl) (by decide) (by decide) ?_
            exact ⟨_, _, rfl, hI259, hF261, (by have hw : σ251 58 12 = (σ251 58 12) := rfl; omega), (by have hw : σ251 58 12 = (σ251 58 12) := rfl; omega), 1, rfl, (by decide), hx257⟩
          · skip
            refine qr_aload_n 44 rfl g226 rfl ?_
            refine qr_iload_n 45 rfl g228 rfl ?_
            refine qr_iload_n 46 rfl g227 rfl ?_
            refine qr_callN 49 rfl rfl rfl (sf_107_58s (d := d + 0) hI259 r2 r1 (by omega) hx257) ?_
            rintro _ _ ⟨α265, rfl, hI266, hG267, v263, rfl, hv263, hx264⟩
            have hF268 : qFr [(58, 11), (58, 12)] [53, 57, 59, 60, 61, 62, 63, 85] σ α σ251 α265 := qFr_t hF261 hG267 (by decide) (by decide)
            show qr_W (qe L xs vb) (d + 5) qx_e106 _ (49, _, [.int (qz v263)], qw σ251 α265 κ ρ, 0, 0)
            refine qr_if_eq 54 52 rfl rfl rfl (qrg hv263 (by decide) (by decide)) (fun h269 => ?_) (fun h269 => ?_)
            · skip
              refine qr_iinc _ 57 rfl g231 (by decide) rfl rfl ?_
              refine qr_goto 3 rfl rfl ?_
              exact ih244 _ (u232 + 1) σ251 α265 (by omega) (qm_gk g226 (by decide) (Or.inl (by decide))) (qm_gk g227 (by decide) (Or.inl (by decide))) (qm_gk g228 (by decide) (Or.inl (by decide))) (qm_gk g229 (by decide) (Or.inl (by decide))) (qm_gk g230 (by decide) (Or.inr rfl)) (qm_ge _ _ _) (by omega) hI266 hF268 (by have hw : σ251 58 12 = (σ251 58 12) := rfl; omega) (by have hw : σ251 58 12 = (σ251 58 12) := rfl; omega) (by omega) hx264 (by omega)
            · skip
              refine qr_iconst 53 rfl rfl ?_
              refine qr_retZ rfl rfl (Or.inr rfl) (by decide) (by decide) ?_
              exact ⟨_, _, rfl, hI266, hF268, (by have hw : σ251 58 12 = (σ251 58 12) := rfl; omega), (by have hw : σ251 58 12 = (σ251 58 12) := rfl; omega), 1, rfl, (by decide), hx264⟩
        · skip
          refine qr_aload_n 17 rfl g226 rfl ?_
          refine qr_iload 19 rfl g231 rfl ?_
          refine qr_callN 22 rfl rfl rfl (sf_101_58 (d := d + 3) hI235 (qrg hf237 (by decide) (by decide))) ?_
          rintro _ _ ⟨rfl, v270, rfl, hv270⟩
          show qr_W (qe L xs vb) (d + 5) qx_e106 _ (22, _, [.int (qz v270)], qw σ233 α234 κ ρ, 0, 0)
          refine qr_if_ne 28 25 rfl rfl rfl (qrg hv270 (by decide) (by decide)) (fun h271 => ?_) (fun h271 => ?_)
          · skip
            refine qr_aload_n 29 rfl g226 rfl ?_
            refine qr_iload 31 rfl g231 rfl ?_
            have hs272 : (-2147483648) ≤ σ233 58 12 ∧ σ233 58 12 ≤ 2147483647 := hI235.1 58 12
            refine qr_callN 34 rfl rfl rfl (sf_89_58s (d := d + 4) hI235 (qrg hf237 (by decide) (by decide)) hx241 (by omega)) ?_
            rintro _ _ ⟨σ275, rfl, hI276, hG277, hw274, rfl, hx273⟩
            have hF278 : qFr [(58, 11), (58, 12)] [53, 57, 59, 60, 61, 62, 63, 85] σ α σ275 α234 := qFr_t hF236 hG277 (by decide) (by decide)
            have hs279 : (-2147483648) ≤ σ275 58 12 ∧ σ275 58 12 ≤ 2147483647 := hI276.1 58 12
            show qr_W (qe L xs vb) (d + 5) qx_e106 _ (34, _, [], qw σ275 α234 κ ρ, 0, 0)
            refine qr_aload_n 35 rfl g226 rfl ?_
            refine qr_iload_n 36 rfl g227 rfl ?_
            refine qr_iload_n 37 rfl g228 rfl ?_
            refine qr_callN 40 rfl rfl rfl (sf_107_58s (d := d + 0) hI276 r1 r2 (by omega) hx273) ?_
            rintro _ _ ⟨α282, rfl, hI283, hG284, v280, rfl, hv280, hx281⟩
            have hF285 : qFr [(58, 11), (58, 12)] [53, 57, 59, 60, 61, 62, 63, 85] σ α σ275 α282 := qFr_t hF278 hG284 (by decide) (by decide)
            show qr_W (qe L xs vb) (d + 5) qx_e106 _ (40, _, [.int (qz v280)], qw σ275 α282 κ ρ, 0, 0)
            refine qr_if_ne 52 43 rfl rfl rfl (qrg hv280 (by decide) (by decide)) (fun h286 => ?_) (fun h286 => ?_)
            · skip
              refine qr_iconst 53 rfl rfl ?_
              refine qr_retZ rfl rfl (Or.inr rfl) (by decide) (by decide) ?_
              exact ⟨_, _, rfl, hI283, hF285, (by have hw : σ275 58 12 = (σ275 58 12) := rfl; omega), (by have hw : σ275 58 12 = (σ275 58 12) := rfl; omega), 1, rfl, (by decide), hx281⟩
            · skip
              refine qr_aload_n 44 rfl g226 rfl ?_
              refine qr_iload_n 45 rfl g228 rfl ?_
              refine qr_iload_n 46 rfl g227 rfl ?_
              refine qr_callN 49 rfl rfl rfl (sf_107_58s (d := d + 0) hI283 r2 r1 (by omega) hx281) ?_
              rintro _ _ ⟨α289, rfl, hI290, hG291, v287, rfl, hv287, hx288⟩
              have hF292 : qFr [(58, 11), (58, 12)] [53, 57, 59, 60, 61, 62, 63, 85] σ α σ275 α289 := qFr_t hF285 hG291 (by decide) (by decide)
              show qr_W (qe L xs vb) (d + 5) qx_e106 _ (49, _, [.int (qz v287)], qw σ275 α289 κ ρ, 0, 0)
              refine qr_if_eq 54 52 rfl rfl rfl (qrg hv287 (by decide) (by decide)) (fun h293 => ?_) (fun h293 => ?_)
              · skip
                refine qr_iinc _ 57 rfl g231 (by decide) rfl rfl ?_
                refine qr_goto 3 rfl rfl ?_
                exact ih244 _ (u232 + 1) σ275 α289 (by omega) (qm_gk g226 (by decide) (Or.inl (by decide))) (qm_gk g227 (by decide) (Or.inl (by decide))) (qm_gk g228 (by decide) (Or.inl (by decide))) (qm_gk g229 (by decide) (Or.inl (by decide))) (qm_gk g230 (by decide) (Or.inr rfl)) (qm_ge _ _ _) (by omega) hI290 hF292 (by have hw : σ275 58 12 = (σ275 58 12) := rfl; omega) (by have hw : σ275 58 12 = (σ275 58 12) := rfl; omega) (by omega) hx288 (by omega)
              · skip
                refine qr_iconst 53 rfl rfl ?_
                refine qr_retZ rfl rfl (Or.inr rfl) (by decide) (by decide) ?_
                exact ⟨_, _, rfl, hI290, hF292, (by have hw : σ275 58 12 = (σ275 58 12) := rfl; omega), (by have hw : σ275 58 12 = (σ275 58 12) := rfl; omega), 1, rfl, (by decide), hx288⟩
          · skip
            refine qr_goto 54 rfl rfl ?_
            refine qr_iinc _ 57 rfl g231 (by decide) rfl rfl ?_
            refine qr_goto 3 rfl rfl ?_
            exact ih244 _ (u232 + 1) σ233 α234 (by omega) (qm_gk g226 (by decide) (Or.inl (by decide))) (qm_gk g227 (by decide) (Or.inl (by decide))) (qm_gk g228 (by decide) (Or.inl (by decide))) (qm_gk g229 (by decide) (Or.inl (by decide))) (qm_gk g230 (by decide) (Or.inr rfl)) (qm_ge _ _ _) (by omega) hI235 hF236 (by have hw : σ233 58 12 = (σ233 58 12) := rfl; omega) (by have hw : σ233 58 12 = (σ233 58 12) := rfl; omega) (by omega) hx241 (by omega)
  exact hL243 ((10000 - x3 + 1 : Int)).toNat _ x3 σ α (by omega) rfl rfl rfl rfl rfl rfl (qrg r3 (by decide) (by decide)) hI hF0 (by have hw : σ 58 12 = (σ 58 12) := rfl; omega) (by have hw : σ 58 12 = (σ 58 12) := rfl; omega) (by omega) p2 (by omega)

set_option maxHeartbeats 4000000 in
set_option maxRecDepth 20000 in
/-- OneRoof$Guests.learnBars -/
theorem sf_111_64s {L : Nat} {xs : Nat → Int} {vb : Bool} {d : Nat} {σ α : Nat → Nat → Int} {κ : Nat → Option Nat} {ρ : Nat} {x1 : Int} {x2 : Int} (hI : qI σ α κ ρ) (r1 : 0 ≤ x1 ∧ x1 ≤ 9999) (r2 : 0 ≤ x2 ∧ x2 ≤ 9999) (p0 : x2 - x1 ≤ 47) (p1 : qSt σ α) (p2 : 0 ≤ σ 58 12 ∧ σ 58 12 ≤ 1999990000) : qm_T (qe L xs vb) (d + 7) 111 [.ref 64, .int (qz x1), .int (qz x2)] (qw σ α κ ρ) (fun r w' => ∃ σ' α', w' = qw σ' α' κ ρ ∧ qI σ' α' κ ρ ∧ qFr [(58, 11), (58, 12)] [53, 57, 59, 60, 61, 62, 63, 66, 85] σ α σ' α' ∧ σ' 58 12 ≤ σ 58 12 + 6912 ∧ σ' 58 12 ≥ σ 58 12 ∧ r = none ∧ qSt σ' α') := by
  refine qr_start (d := d + 6) qv_e111 (Nat.le_of_ble_eq_true rfl) ?_
  show qr_W (qe L xs vb) (d + 6) qx_e111 _ (0, [(0, .ref 64), (1, .int (qz x1)), (2, .int (qz x2))], [], _, 0, 0)
  have hF0 := qFr_rf [(58, 11), (58, 12)] [53, 57, 59, 60, 61, 62, 63, 66, 85] σ α
  have hz58_12 : (-2147483648) ≤ σ 58 12 ∧ σ 58 12 ≤ 2147483647 := hI.1 58 12
  refine qr_aload_n 1 rfl rfl rfl ?_
  refine qr_get 4 rfl rfl rfl (by decide) rfl ?_
  refine qr_iconst 5 rfl rfl ?_
  refine qr_callN 8 rfl rfl rfl (sf_4_66 (d := d + 5) hI (by decide)) ?_
  rintro _ _ ⟨α1, rfl, hI2, hG3, rfl⟩
  have hF4 : qFr [(58, 11), (58, 12)] [53, 57, 59, 60, 61, 62, 63, 66, 85] σ α σ α1 := qFr_t hF0 hG3 (by decide) (by decide)
  have hy5 := qSt_fr hG3 (by decide) (by decide) p1
  show qr_W (qe L xs vb) (d + 6) qx_e111 _ (8, _, [], qw σ α1 κ ρ, 0, 0)
  refine qr_iconst 9 rfl rfl ?_
  refine qr_istore_n _ 10 rfl (by decide) rfl rfl ?_
  have hL11340 : ∀ (n : Nat) (ls : qm_L) (u11331 : Int) (σ11332 α11333 : Nat → Nat → Int), 12 - u11331 < (n : Int) → qm_get ls 0 = some (.ref 64) → qm_get ls 1 = some (.int (qz x1)) → qm_get ls 2 = some (.int (qz x2)) → qm_get ls 3 = some (.int (qz u11331)) → (0 ≤ u11331 ∧ u11331 ≤ 12) → qI σ11332 α11333 κ ρ → qFr [(58, 11), (58, 12)] [53, 57, 59, 60, 61, 62, 63, 66, 85] σ α σ11332 α11333 → σ11332 58 12 ≤ σ 58 12 + 576 * u11331 → σ 58 12 ≤ σ11332 58 12 → qSt σ11332 α11333 → qr_W (qe L xs vb) (d + 6) qx_e111 (fun r w' => ∃ σ' α', w' = qw σ' α' κ ρ ∧ qI σ' α' κ ρ ∧ qFr [(58, 11), (58, 12)] [53, 57, 59, 60, 61, 62, 63, 66, 85] σ α σ' α' ∧ σ' 58 12 ≤ σ 58 12 + 6912 ∧ σ' 58 12 ≥ σ 58 12 ∧ r = none ∧ qSt σ' α') (10, ls, [], qw σ11332 α11333 κ ρ, 0, 0) := by
    intro n
    induction n with
    | zero => intro ls u11331 σ11332 α11333 hm g11327 g11328 g11329 g11330 hf11336 hI11334 hF11335 hx11337 hx11338 hx11339; exact False.elim (by omega)
    | succ n ih11341 =>
      intro ls u11331 σ11332 α11333 hm g11327 g11328 g11329 g11330 hf11336 hI11334 hF11335 hx11337 hx11338 hx11339
      have hs11342 : (-2147483648) ≤ σ11332 58 12 ∧ σ11332 58 12 ≤ 2147483647 := hI11334.1 58 12
      refine qr_iload_n 11 rfl g11330 rfl ?_
      refine qr_aload_n 12 rfl g11327 rfl ?_
      refine qr_get 15 rfl rfl rfl (by decide) rfl ?_
      have hs11343 : 0 ≤ σ11332 64 2 ∧ σ11332 64 2 ≤ 12 := hI11334.1 64 2
      refine qr_icmp_ge 98 18 rfl rfl rfl (qrg hf11336 (by decide) (by decide)) (qrg hs11343 (by decide) (by decide)) (fun h11344 => ?_) (fun h11344 => ?_)
      · skip
        refine qr_retV rfl rfl (by decide) (by decide) ?_
        exact ⟨_, _, rfl, hI11334, hF11335, (by have hw : σ11332 58 12 = (σ11332 58 12) := rfl; omega), (by have hw : σ11332 58 12 = (σ11332 58 12) := rfl; omega), rfl, hx11339⟩
      · skip
        refine qr_iload_n 19 rfl g11330 rfl ?_
        refine qr_iconst 20 rfl rfl ?_
        refine qr_iadd 21 rfl rfl ?_
        refine qr_istore _ 23 rfl (by decide) rfl rfl ?_
        have hL11885 : ∀ (n : Nat) (ls : qm_L) (u11874 : Int) (σ11875 α11876 : Nat → Nat → Int), 12 - u11874 < (n : Int) → qm_get ls 0 = some (.ref 64) → qm_get ls 1 = some (.int (qz x1)) → qm_get ls 2 = some (.int (qz x2)) → qm_get ls 3 = some (.int (qz u11331)) → qm_get ls 4 = some (.int (qz u11874)) → (1 ≤ u11874 ∧ u11874 ≤ 12) → qI σ11875 α11876 κ ρ → qFr [(58, 11), (58, 12)] [53, 57, 59, 60, 61, 62, 63, 66, 85] σ α σ11875 α11876 → σ11875 64 2 = (σ11332 64 2) → σ11875 58 12 ≤ σ 58 12 + 576 * u11331 + 48 * u11874 → σ 58 12 ≤ σ11875 58 12 → qSt σ11875 α11876 → (u11331 + 1) ≤ u11874 → qr_W (qe L xs vb) (d + 6) qx_e111 (fun r w' => ∃ σ' α', w' = qw σ' α' κ ρ ∧ qI σ' α' κ ρ ∧ qFr [(58, 11), (58, 12)] [53, 57, 59, 60, 61, 62, 63, 66, 85] σ α σ' α' ∧ σ' 58 12 ≤ σ 58 12 + 6912 ∧ σ' 58 12 ≥ σ 58 12 ∧ r = none ∧ qSt σ' α') (23, ls, [], qw σ11875 α11876 κ ρ, 0, 0) := by
          intro n
          induction n with
          | zero => intro ls u11874 σ11875 α11876 hm g11869 g11870 g11871 g11872 g11873 hf11880 hI11877 hF11878 hk11879 hx11881 hx11882 hx11883 hx11884; exact False.elim (by omega)
          | succ n ih11886 =>
            intro ls u11874 σ11875 α11876 hm g11869 g11870 g11871 g11872 g11873 hf11880 hI11877 hF11878 hk11879 hx11881 hx11882 hx11883 hx11884
            have hs11887 : (-2147483648) ≤ σ11875 58 12 ∧ σ11875 58 12 ≤ 2147483647 := hI11877.1 58 12
            refine qr_iload 25 rfl g11873 rfl ?_
            refine qr_aload_n 26 rfl g11869 rfl ?_
            refine qr_get 29 rfl rfl rfl (by decide) rfl ?_
            refine qy_v (σ11332 64 2) ((hk11879).trans rfl) ?_
            refine qr_icmp_ge 92 32 rfl rfl rfl (qrg hf11880 (by decide) (by decide)) (qrg hs11343 (by decide) (by decide)) (fun h11951 => ?_) (fun h11951 => ?_)
            · skip
              refine qr_iinc _ 95 rfl g11872 (by decide) rfl rfl ?_
              refine qr_goto 10 rfl rfl ?_
              exact ih11341 _ (u11331 + 1) σ11875 α11876 (by omega) (qm_gk g11869 (by decide) (Or.inl (by decide))) (qm_gk g11870 (by decide) (Or.inl (by decide))) (qm_gk g11871 (by decide) (Or.inr rfl)) (qm_ge _ _ _) (by omega) hI11877 hF11878 (by have hw : σ11875 58 12 = (σ11875 58 12) := rfl; omega) (by have hw : σ11875 58 12 = (σ11875 58 12) := rfl; omega) hx11883
            · skip
              refine qr_aload_n 33 rfl g11869 rfl ?_
              refine qr_get 36 rfl rfl rfl (by decide) rfl ?_
              refine qr_aload_n 37 rfl g11869 rfl ?_
              refine qr_get 40 rfl rfl rfl (by decide) rfl ?_
              refine qr_iload_n 41 rfl g11872 rfl ?_
              refine qr_iaload 42 rfl rfl (by omega) (by decide) rfl ?_
              refine qr_topI (fun v11952 hv11952 => ?_)
              have hs11953 : 0 ≤ v11952 ∧ v11952 ≤ 31 := by rw [hv11952]; exact hI11877.2.1 65 _ (show _ < 12 by omega)
              have hs11954 : σ11875 64 2 = (σ11332 64 2) := (hk11879).trans rfl
              refine qr_aload_n 43 rfl g11869 rfl ?_
              refine qr_get 46 rfl rfl rfl (by decide) rfl ?_
              refine qr_iload 48 rfl g11873 rfl ?_
              refine qr_iaload 49 rfl rfl (by omega) (by decide) rfl ?_
              refine qr_topI (fun v11955 hv11955 => ?_)
              have hs11956 : 0 ≤ v11955 ∧ v11955 ≤ 31 := by rw [hv11955]; exact hI11877.2.1 65 _ (show _ < 12 by omega)
              have hs11957 : σ11875 64 2 = (σ11332 64 2) := (hk11879).trans rfl
              have hs11958 := qI_li hI11877 (u11331) (u11874)
              refine qr_iload_n 50 rfl g11870 rfl ?_
              refine qr_iload_n 51 rfl g11871 rfl ?_
              have hs11959 : (-2147483648) ≤ σ11875 58 12 ∧ σ11875 58 12 ≤ 2147483647 := hI11877.1 58 12
              refine qr_callN 54 rfl rfl rfl (sf_106_58s (d := d + 0) hI11877 hs11953 hs11956 r1 r2 (by omega) (by omega) hx11883 (by omega)) ?_
              rintro _ _ ⟨σ11964, α11965, rfl, hI11966, hG11967, hw11962, hw11963, v11960, rfl, hv11960, hx11961⟩
              have hF11968 : qFr [(58, 11), (58, 12)] [53, 57, 59, 60, 61, 62, 63, 66, 85] σ α σ11964 α11965 := qFr_t hF11878 hG11967 (by decide) (by decide)
              have hs11969 : (-2147483648) ≤ σ11964 58 12 ∧ σ11964 58 12 ≤ 2147483647 := hI11966.1 58 12
              show qr_W (qe L xs vb) (d + 6) qx_e111 _ (54, _, [.int (qz v11960)], qw σ11964 α11965 κ ρ, 0, 0)
              have hJ11998 : ∀ (ls : qm_L) (α11994 : Nat → Nat → Int), qm_get ls 0 = some (.ref 64) → qm_get ls 1 = some (.int (qz x1)) → qm_get ls 2 = some (.int (qz x2)) → qm_get ls 3 = some (.int (qz u11331)) → qm_get ls 4 = some (.int (qz u11874)) → qI σ11964 α11994 κ ρ → qFr [(58, 11), (58, 12)] [53, 57, 59, 60, 61, 62, 63, 66, 85] σ α σ11964 α11994 → qSt σ11964 α11994 → qr_W (qe L xs vb) (d + 6) qx_e111 (fun r w' => ∃ σ' α', w' = qw σ' α' κ ρ ∧ qI σ' α' κ ρ ∧ qFr [(58, 11), (58, 12)] [53, 57, 59, 60, 61, 62, 63, 66, 85] σ α σ' α' ∧ σ' 58 12 ≤ σ 58 12 + 6912 ∧ σ' 58 12 ≥ σ 58 12 ∧ r = none ∧ qSt σ' α') (86, ls, [], qw σ11964 α11994 κ ρ, 0, 0) := by
                intro ls α11994 g11988 g11989 g11990 g11991 g11992 hI11995 hF11996 hx11997
                refine qr_iinc _ 89 rfl g11992 (by decide) rfl rfl ?_
                refine qr_goto 23 rfl rfl ?_
                exact ih11886 _ (u11874 + 1) σ11964 α11994 (by omega) (qm_gk g11988 (by decide) (Or.inl (by decide))) (qm_gk g11989 (by decide) (Or.inl (by decide))) (qm_gk g11990 (by decide) (Or.inl (by decide))) (qm_gk g11991 (by decide) (Or.inr rfl)) (qm_ge _ _ _) (by omega) hI11995 hF11996 ((hG11967.1 64 2 (by decide)).trans ((hk11879).trans rfl)) (by have hw : σ11964 58 12 = (σ11964 58 12) := rfl; omega) (by have hw : σ11964 58 12 = (σ11964 58 12) := rfl; omega) hx11997 (by omega)
              refine qr_if_ne 60 57 rfl rfl rfl (qrg hv11960 (by decide) (by decide)) (fun h11999 => ?_) (fun h11999 => ?_)
              · skip
                refine qr_aload_n 61 rfl g11869 rfl ?_
                refine qr_get 64 rfl rfl rfl (by decide) rfl ?_
                refine qr_iload_n 65 rfl g11872 rfl ?_
                refine qr_dup2 66 rfl rfl rfl rfl ?_
                refine qr_iaload 67 rfl rfl (by omega) (by decide) rfl ?_
                refine qr_topI (fun v12000 hv12000 => ?_)
                have hs12001 : (-2147483648) ≤ v12000 ∧ v12000 ≤ 2147483647 := by rw [hv12000]; exact hI11966.2.1 66 _ (show _ < 12 by omega)
                refine qr_iconst 68 rfl rfl ?_
                refine qr_iload 70 rfl g11873 rfl ?_
                refine qr_ishl 71 rfl rfl ?_
                refine qy_shl1 (N := 11) (by omega) (fun v12002 hv12002 => ?_)
                refine qr_ior 72 rfl rfl ?_
                refine qy_can (fun v12003 hv12003 => ?_)
                refine qr_iastore 73 rfl (by decide) rfl (by omega) (by decide) rfl ?_
                refine qy_wA (qw_r α11965 66 (qzu (α11965 66) (u11331 : Int).toNat v12003)) rfl (fun α12004 e12005 => ?_)
                have hI12006 : qI σ11964 α12004 κ ρ := by rw [e12005]; exact qI_r hI11966 66 _ rfl (show (-2147483648) ≤ v12003 ∧ v12003 ≤ 2147483647 by omega)
                have hF12007 : qFr [(58, 11), (58, 12)] [53, 57, 59, 60, 61, 62, 63, 66, 85] σ α σ11964 α12004 := by rw [e12005]; exact qFr_r hF11968 66 _ (by decide)
                have hy12008 : qSt σ11964 α12004 := qSt_c rfl (by rw [e12005]; exact qw_r_ne (by decide)) (by rw [e12005]; exact qw_r_ne (by decide)) hx11961
                refine qr_aload_n 74 rfl g11869 rfl ?_
                refine qr_get 77 rfl rfl rfl (by decide) rfl ?_
                refine qr_iload 79 rfl g11873 rfl ?_
                refine qr_dup2 80 rfl rfl rfl rfl ?_
                refine qr_iaload 81 rfl rfl (by omega) (by decide) rfl ?_
                refine qr_topI (fun v12009 hv12009 => ?_)
                have hs12010 : (-2147483648) ≤ v12009 ∧ v12009 ≤ 2147483647 := by rw [hv12009]; exact hI12006.2.1 66 _ (show _ < 12 by omega)
                refine qr_iconst 82 rfl rfl ?_
                refine qr_iload_n 83 rfl g11872 rfl ?_
                refine qr_ishl 84 rfl rfl ?_
                refine qy_shl1 (N := 11) (by omega) (fun v12011 hv12011 => ?_)
                refine qr_ior 85 rfl rfl ?_
                refine qy_can (fun v12012 hv12012 => ?_)
                refine qr_iastore 86 rfl (by decide) rfl (by omega) (by decide) rfl ?_
                refine qy_wA (qw_r α12004 66 (qzu (α12004 66) (u11874 : Int).toNat v12012)) rfl (fun α12013 e12014 => ?_)
                have hI12015 : qI σ11964 α12013 κ ρ := by rw [e12014]; exact qI_r hI12006 66 _ rfl (show (-2147483648) ≤ v12012 ∧ v12012 ≤ 2147483647 by omega)
                have hF12016 : qFr [(58, 11), (58, 12)] [53, 57, 59, 60, 61, 62, 63, 66, 85] σ α σ11964 α12013 := by rw [e12014]; exact qFr_r hF12007 66 _ (by decide)
                have hy12017 : qSt σ11964 α12013 := qSt_c rfl (by rw [e12014]; exact qw_r_ne (by decide)) (by rw [e12014]; exact qw_r_ne (by decide)) hy12008
                exact hJ11998 _ α12013 g11869 g11870 g11871 g11872 g11873 hI12015 hF12016 hy12017
              · skip
                refine qr_goto 86 rfl rfl ?_
                exact hJ11998 _ α11965 g11869 g11870 g11871 g11872 g11873 hI11966 hF11968 hx11961
        exact hL11885 ((12 - (u11331 + 1) + 1 : Int)).toNat _ (u11331 + 1) σ11332 α11333 (by omega) (qm_gk g11327 (by decide) (Or.inl (by decide))) (qm_gk g11328 (by decide) (Or.inl (by decide))) (qm_gk g11329 (by decide) (Or.inl (by decide))) (qm_gk g11330 (by decide) (Or.inr rfl)) (qm_ge _ _ _) (by omega) hI11334 hF11335 (rfl) (by have hw : σ11332 58 12 = (σ11332 58 12) := rfl; omega) (by have hw : σ11332 58 12 = (σ11332 58 12) := rfl; omega) hx11339 (by omega)
  exact hL11340 ((12 - 0 + 1 : Int)).toNat _ 0 σ α1 (by omega) rfl rfl rfl rfl (by decide) hI2 hF4 (by have hw : σ 58 12 = (σ 58 12) := rfl; omega) (by have hw : σ 58 12 = (σ 58 12) := rfl; omega) hy5

set_option maxHeartbeats 4000000 in
set_option maxRecDepth 20000 in
/-- OneRoof$Guests.clash -/
theorem sf_129_64s {L : Nat} {xs : Nat → Int} {vb : Bool} {d : Nat} {σ α : Nat → Nat → Int} {κ : Nat → Option Nat} {ρ : Nat} {x1 : Int} {x2 : Int} (hI : qI σ α κ ρ) (r1 : 0 ≤ x1 ∧ x1 ≤ 31) (r2 : 0 ≤ x2 ∧ x2 ≤ 31) (p0 : ¬ x1 = x2) (p1 : qSt σ α) : qm_T (qe L xs vb) (d + 4) 129 [.ref 64, .int (qz x1), .int (qz x2)] (qw σ α κ ρ) (fun r w' => ∃ α', w' = qw σ α' κ ρ ∧ qI σ α' κ ρ ∧ qFr [] [60, 61, 62, 63] σ α σ α' ∧ ∃ v : Int, r = some (.int (qz v)) ∧ (0 ≤ v ∧ v ≤ 1) ∧ qSt σ α') := by
  refine qr_start (d := d + 3) qv_e129 (Nat.le_of_ble_eq_true rfl) ?_
  show qr_W (qe L xs vb) (d + 3) qx_e129 _ (0, [(0, .ref 64), (1, .int (qz x1)), (2, .int (qz x2))], [], _, 0, 0)
  have hF0 := qFr_rf [] [60, 61, 62, 63] σ α
  refine qr_aload_n 1 rfl rfl rfl ?_
  refine qr_get 4 rfl rfl rfl (by decide) rfl ?_
  refine qr_get 7 rfl rfl rfl (by decide) rfl ?_
  refine qr_get 10 rfl rfl rfl (by decide) rfl ?_
  refine qr_iload_n 11 rfl rfl rfl ?_
  refine qr_iaload 12 rfl rfl (qrgi r1 (by decide) (by decide)) (by decide) rfl ?_
  refine qr_topI (fun v1 hv1 => ?_)
  have hs2 : (-2147483648) ≤ v1 ∧ v1 ≤ 2147483647 := by rw [hv1]; exact hI.2.1 21 _ (show _ < 32 from qrgt r1 (by decide) (by decide))
  refine qr_aload_n 13 rfl rfl rfl ?_
  refine qr_get 16 rfl rfl rfl (by decide) rfl ?_
  refine qr_get 19 rfl rfl rfl (by decide) rfl ?_
  refine qr_get 22 rfl rfl rfl (by decide) rfl ?_
  refine qr_iload_n 23 rfl rfl rfl ?_
  refine qr_iaload 24 rfl rfl (qrgi r2 (by decide) (by decide)) (by decide) rfl ?_
  refine qr_topI (fun v3 hv3 => ?_)
  have hs4 : (-2147483648) ≤ v3 ∧ v3 ≤ 2147483647 := by rw [hv3]; exact hI.2.1 21 _ (show _ < 32 from qrgt r2 (by decide) (by decide))
  refine qr_icmp_ne 60 27 rfl rfl rfl hs2 hs4 (fun h5 => ?_) (fun h5 => ?_)
  · skip
    refine qr_iconst 61 rfl rfl ?_
    refine qr_retZ rfl rfl (Or.inl rfl) (by decide) (by decide) ?_
    exact ⟨_, rfl, hI, hF0, 0, rfl, (by decide), p1⟩
  · skip
    refine qr_aload_n 28 rfl rfl rfl ?_
    refine qr_get 31 rfl rfl rfl (by decide) rfl ?_
    refine qr_iload_n 32 rfl rfl rfl ?_
    refine qr_iload_n 33 rfl rfl rfl ?_
    refine qr_callN 36 rfl rfl rfl (sf_92_58s (d := d + 0) hI r1 r2 (by omega) p1) ?_
    rintro _ _ ⟨α8, rfl, hI9, hG10, v6, rfl, hv6, hx7⟩
    have hF11 : qFr [] [60, 61, 62, 63] σ α σ α8 := qFr_t hF0 hG10 (by decide) (by decide)
    show qr_W (qe L xs vb) (d + 3) qx_e129 _ (36, _, [.int (qz v6)], qw σ α8 κ ρ, 0, 0)
    refine qr_sipush 39 rfl (by decide) rfl ?_
    refine qr_icmp_ge 60 42 rfl rfl rfl (qrg hv6 (by decide) (by decide)) (by decide) (fun h12 => ?_) (fun h12 => ?_)
    · skip
      refine qr_iconst 61 rfl rfl ?_
      refine qr_retZ rfl rfl (Or.inl rfl) (by decide) (by decide) ?_
      exact ⟨_, rfl, hI9, hF11, 0, rfl, (by decide), hx7⟩
    · skip
      refine qr_aload_n 43 rfl rfl rfl ?_
      refine qr_get 46 rfl rfl rfl (by decide) rfl ?_
      refine qr_iload_n 47 rfl rfl rfl ?_
      refine qr_iload_n 48 rfl rfl rfl ?_
      refine qr_callN 51 rfl rfl rfl (sf_94_58s (d := d + 0) hI9 r1 r2 (by omega) hx7) ?_
      rintro _ _ ⟨α15, rfl, hI16, hG17, v13, rfl, hv13, hx14⟩
      have hF18 : qFr [] [60, 61, 62, 63] σ α σ α15 := qFr_t hF11 hG17 (by decide) (by decide)
      show qr_W (qe L xs vb) (d + 3) qx_e129 _ (51, _, [.long (ql v13)], qw σ α15 κ ρ, 0, 0)
      refine qr_lconst 52 rfl rfl ?_
      refine qy_vl 0 rfl ?_
      refine qr_lc_ne 60 56 rfl rfl rfl rfl hv13 (by decide) (fun h19 => ?_) (fun h19 => ?_)
      · skip
        refine qr_iconst 61 rfl rfl ?_
        refine qr_retZ rfl rfl (Or.inl rfl) (by decide) (by decide) ?_
        exact ⟨_, rfl, hI16, hF18, 0, rfl, (by decide), hx14⟩
      · skip
        refine qr_iconst 57 rfl rfl ?_
        refine qr_goto 61 rfl rfl ?_
        refine qr_retZ rfl rfl (Or.inr rfl) (by decide) (by decide) ?_
        exact ⟨_, rfl, hI16, hF18, 1, rfl, (by decide), hx14⟩

set_option maxHeartbeats 4000000 in
set_option maxRecDepth 20000 in
/-- OneRoof$Guests.learnMeetings -/
theorem sf_128_64s {L : Nat} {xs : Nat → Int} {vb : Bool} {d : Nat} {σ α : Nat → Nat → Int} {κ : Nat → Option Nat} {ρ : Nat} {x1 : Int} {x2 : Int} {x3 : Int} (hI : qI σ α κ ρ) (r1 : 0 ≤ x1 ∧ x1 ≤ 2399) (r2 : 0 ≤ x2 ∧ x2 ≤ 99) (r3 : 0 ≤ x3 ∧ x3 ≤ 99) (p0 : σ 64 2 ≤ 6) (p1 : qSt σ α) (p2 : 0 ≤ σ 58 12 ∧ σ 58 12 ≤ 1999999900) : qm_T (qe L xs vb) (d + 5) 128 [.ref 64, .int (qz x1), .int (qz x2), .int (qz x3)] (qw σ α κ ρ) (fun r w' => ∃ σ' α', w' = qw σ' α' κ ρ ∧ qI σ' α' κ ρ ∧ qFr [(58, 11), (58, 12), (64, 7)] [60, 61, 62, 63, 68] σ α σ' α' ∧ σ' 58 12 ≤ σ 58 12 + 6 ∧ σ' 58 12 ≥ σ 58 12 ∧ r = none ∧ qSt σ' α') := by
  refine qr_start (d := d + 4) qv_e128 (Nat.le_of_ble_eq_true rfl) ?_
  show qr_W (qe L xs vb) (d + 4) qx_e128 _ (0, [(0, .ref 64), (1, .int (qz x1)), (2, .int (qz x2)), (3, .int (qz x3))], [], _, 0, 0)
  have hF0 := qFr_rf [(58, 11), (58, 12), (64, 7)] [60, 61, 62, 63, 68] σ α
  have hz64_2 : 0 ≤ σ 64 2 ∧ σ 64 2 ≤ 12 := hI.1 64 2
  have hz58_12 : (-2147483648) ≤ σ 58 12 ∧ σ 58 12 ≤ 2147483647 := hI.1 58 12
  refine qr_aload_n 1 rfl rfl rfl ?_
  refine qr_iload_n 2 rfl rfl rfl ?_
  refine qr_iconst 3 rfl rfl ?_
  have hJ7 : ∀ (ls : qm_L) (u5 : Int), qm_get ls 0 = some (.ref 64) → qm_get ls 1 = some (.int (qz x1)) → qm_get ls 2 = some (.int (qz x2)) → ((-2147483648) ≤ u5 ∧ u5 ≤ 2147483647) → qr_W (qe L xs vb) (d + 4) qx_e128 (fun r w' => ∃ σ' α', w' = qw σ' α' κ ρ ∧ qI σ' α' κ ρ ∧ qFr [(58, 11), (58, 12), (64, 7)] [60, 61, 62, 63, 68] σ α σ' α' ∧ σ' 58 12 ≤ σ 58 12 + 6 ∧ σ' 58 12 ≥ σ 58 12 ∧ r = none ∧ qSt σ' α') (13, ls, [.int (qz u5), .ref 64], qw σ α κ ρ, 0, 0) := by
    intro ls u5 g2 g3 g4 hf6
    refine qr_put 16 rfl (by decide) rfl (Nat.le_of_ble_eq_true rfl) (Nat.le_of_ble_eq_true rfl) (Or.inl rfl) (qr_fitI rfl _) rfl ?_
    refine qy_wS (qw_s σ 64 7 u5) rfl (fun σ8 e9 => ?_)
    have hI10 : qI σ8 α κ ρ := by rw [e9]; exact qI_s hI 64 7 rfl (show (-2147483648) ≤ u5 ∧ u5 ≤ 2147483647 by omega)
    have hF11 : qFr [(58, 11), (58, 12), (64, 7)] [60, 61, 62, 63, 68] σ α σ8 α := by rw [e9]; exact qFr_s hF0 64 7 _ (by decide)
    have hy12 : qSt σ8 α := qSt_c (congrFun (congrFun e9 58) 12) rfl rfl p1
    refine qr_aload_n 17 rfl g2 rfl ?_
    refine qr_get 20 rfl rfl rfl (by decide) rfl ?_
    refine qr_iconst 21 rfl rfl ?_
    refine qr_callN 24 rfl rfl rfl (sf_4_68 (d := d + 3) hI10 (by decide)) ?_
    rintro _ _ ⟨α13, rfl, hI14, hG15, rfl⟩
    have hF16 : qFr [(58, 11), (58, 12), (64, 7)] [60, 61, 62, 63, 68] σ α σ8 α13 := qFr_t hF11 hG15 (by decide) (by decide)
    have hy17 := qSt_fr hG15 (by decide) (by decide) hy12
    show qr_W (qe L xs vb) (d + 4) qx_e128 _ (24, _, [], qw σ8 α13 κ ρ, 0, 0)
    refine qr_iconst 25 rfl rfl ?_
    refine qr_istore _ 27 rfl (by decide) rfl rfl ?_
    have hL129753 : ∀ (n : Nat) (ls : qm_L) (u129742 : Int) (σ129743 α129744 : Nat → Nat → Int), 6 - u129742 < (n : Int) → qm_get ls 0 = some (.ref 64) → qm_get ls 1 = some (.int (qz x1)) → qm_get ls 2 = some (.int (qz x2)) → qm_get ls 4 = some (.int (qz u129742)) → (0 ≤ u129742 ∧ u129742 ≤ 6) → qI σ129743 α129744 κ ρ → qFr [(58, 11), (58, 12), (64, 7)] [60, 61, 62, 63, 68] σ α σ129743 α129744 → σ129743 64 2 = (σ 64 2) → σ129743 64 7 = u5 → σ129743 58 12 ≤ σ 58 12 + u129742 → σ 58 12 ≤ σ129743 58 12 → qSt σ129743 α129744 → qr_W (qe L xs vb) (d + 4) qx_e128 (fun r w' => ∃ σ' α', w' = qw σ' α' κ ρ ∧ qI σ' α' κ ρ ∧ qFr [(58, 11), (58, 12), (64, 7)] [60, 61, 62, 63, 68] σ α σ' α' ∧ σ' 58 12 ≤ σ 58 12 + 6 ∧ σ' 58 12 ≥ σ 58 12 ∧ r = none ∧ qSt σ' α') (27, ls, [], qw σ129743 α129744 κ ρ, 0, 0) := by
      intro n
      induction n with
      | zero => intro ls u129742 σ129743 α129744 hm g129738 g129739 g129740 g129741 hf129749 hI129745 hF129746 hk129747 hk129748 hx129750 hx129751 hx129752; exact False.elim (by omega)
      | succ n ih129754 =>
        intro ls u129742 σ129743 α129744 hm g129738 g129739 g129740 g129741 hf129749 hI129745 hF129746 hk129747 hk129748 hx129750 hx129751 hx129752
        have hs129755 : (-2147483648) ≤ σ129743 58 12 ∧ σ129743 58 12 ≤ 2147483647 := hI129745.1 58 12
        refine qr_iload 29 rfl g129741 rfl ?_
        refine qr_aload_n 30 rfl g129738 rfl ?_
        refine qr_get 33 rfl rfl rfl (by decide) rfl ?_
        refine qy_v (σ 64 2) ((hk129747).trans rfl) ?_
        refine qr_icmp_ge 139 36 rfl rfl rfl (qrg hf129749 (by decide) (by decide)) (qrg hz64_2 (by decide) (by decide)) (fun h129756 => ?_) (fun h129756 => ?_)
        · skip
          refine qr_retV rfl rfl (by decide) (by decide) ?_
          exact ⟨_, _, rfl, hI129745, hF129746, (by have hw : σ129743 58 12 = (σ129743 58 12) := rfl; omega), (by have hw : σ129743 58 12 = (σ129743 58 12) := rfl; omega), rfl, hx129752⟩
        · skip
          refine qr_aload_n 37 rfl g129738 rfl ?_
          refine qr_get 40 rfl rfl rfl (by decide) rfl ?_
          refine qr_iload_n 41 rfl g129739 rfl ?_
          refine qr_iload 43 rfl g129741 rfl ?_
          refine qr_iload_n 44 rfl g129740 rfl ?_
          refine qr_imul 45 rfl rfl ?_
          refine qy_mulb (A := 5) (B := 99) (C := 495) (by omega) (by omega) (by decide) (fun v129757 hv129757 => ?_)
          refine qr_iadd 46 rfl rfl ?_
          have hs129758 : (-2147483648) ≤ σ129743 58 12 ∧ σ129743 58 12 ≤ 2147483647 := hI129745.1 58 12
          refine qr_callN 49 rfl rfl rfl (sf_89_58s (d := d + 3) hI129745 (by omega) hx129752 (by omega)) ?_
          rintro _ _ ⟨σ129761, rfl, hI129762, hG129763, hw129760, rfl, hx129759⟩
          have hF129764 : qFr [(58, 11), (58, 12), (64, 7)] [60, 61, 62, 63, 68] σ α σ129761 α129744 := qFr_t hF129746 hG129763 (by decide) (by decide)
          have hs129765 : (-2147483648) ≤ σ129761 58 12 ∧ σ129761 58 12 ≤ 2147483647 := hI129762.1 58 12
          show qr_W (qe L xs vb) (d + 4) qx_e128 _ (49, _, [], qw σ129761 α129744 κ ρ, 0, 0)
          refine qr_iconst 50 rfl rfl ?_
          refine qr_istore _ 52 rfl (by decide) rfl rfl ?_
          have hL144066 : ∀ (n : Nat) (ls : qm_L) (u144059 : Int) (α144061 : Nat → Nat → Int), 6 - u144059 < (n : Int) → qm_get ls 0 = some (.ref 64) → qm_get ls 1 = some (.int (qz x1)) → qm_get ls 2 = some (.int (qz x2)) → qm_get ls 4 = some (.int (qz u129742)) → qm_get ls 5 = some (.int (qz u144059)) → (0 ≤ u144059 ∧ u144059 ≤ 6) → qI σ129761 α144061 κ ρ → qFr [(58, 11), (58, 12), (64, 7)] [60, 61, 62, 63, 68] σ α σ129761 α144061 → qSt σ129761 α144061 → qr_W (qe L xs vb) (d + 4) qx_e128 (fun r w' => ∃ σ' α', w' = qw σ' α' κ ρ ∧ qI σ' α' κ ρ ∧ qFr [(58, 11), (58, 12), (64, 7)] [60, 61, 62, 63, 68] σ α σ' α' ∧ σ' 58 12 ≤ σ 58 12 + 6 ∧ σ' 58 12 ≥ σ 58 12 ∧ r = none ∧ qSt σ' α') (52, ls, [], qw σ129761 α144061 κ ρ, 0, 0) := by
            intro n
            induction n with
            | zero => intro ls u144059 α144061 hm g144054 g144055 g144056 g144057 g144058 hf144064 hI144062 hF144063 hx144065; exact False.elim (by omega)
            | succ n ih144067 =>
              intro ls u144059 α144061 hm g144054 g144055 g144056 g144057 g144058 hf144064 hI144062 hF144063 hx144065
              refine qr_iload 54 rfl g144058 rfl ?_
              refine qr_aload_n 55 rfl g144054 rfl ?_
              refine qr_get 58 rfl rfl rfl (by decide) rfl ?_
              refine qy_v (σ 64 2) ((hG129763.1 64 2 (by decide)).trans ((hk129747).trans rfl)) ?_
              refine qr_icmp_ge 133 61 rfl rfl rfl (qrg hf144064 (by decide) (by decide)) (qrg hz64_2 (by decide) (by decide)) (fun h145022 => ?_) (fun h145022 => ?_)
              · skip
                refine qr_iinc _ 136 rfl g144057 (by decide) rfl rfl ?_
                refine qr_goto 27 rfl rfl ?_
                exact ih129754 _ (u129742 + 1) σ129761 α144061 (by omega) (qm_gk g144054 (by decide) (Or.inl (by decide))) (qm_gk g144055 (by decide) (Or.inl (by decide))) (qm_gk g144056 (by decide) (Or.inl (by decide))) (qm_ge _ _ _) (by omega) hI144062 hF144063 ((hG129763.1 64 2 (by decide)).trans ((hk129747).trans rfl)) ((hG129763.1 64 7 (by decide)).trans ((hk129748).trans rfl)) (by have hw : σ129761 58 12 = (σ129761 58 12) := rfl; omega) (by have hw : σ129761 58 12 = (σ129761 58 12) := rfl; omega) hx144065
              · skip
                refine qr_iconst 62 rfl rfl ?_
                refine qr_istore _ 64 rfl (by decide) rfl rfl ?_
                have hL145878 : ∀ (n : Nat) (ls : qm_L) (u145871 : Int) (α145873 : Nat → Nat → Int), 6 - u145871 < (n : Int) → qm_get ls 0 = some (.ref 64) → qm_get ls 1 = some (.int (qz x1)) → qm_get ls 2 = some (.int (qz x2)) → qm_get ls 4 = some (.int (qz u129742)) → qm_get ls 5 = some (.int (qz u144059)) → qm_get ls 6 = some (.int (qz u145871)) → (0 ≤ u145871 ∧ u145871 ≤ 6) → qI σ129761 α145873 κ ρ → qFr [(58, 11), (58, 12), (64, 7)] [60, 61, 62, 63, 68] σ α σ129761 α145873 → qSt σ129761 α145873 → qr_W (qe L xs vb) (d + 4) qx_e128 (fun r w' => ∃ σ' α', w' = qw σ' α' κ ρ ∧ qI σ' α' κ ρ ∧ qFr [(58, 11), (58, 12), (64, 7)] [60, 61, 62, 63, 68] σ α σ' α' ∧ σ' 58 12 ≤ σ 58 12 + 6 ∧ σ' 58 12 ≥ σ 58 12 ∧ r = none ∧ qSt σ' α') (64, ls, [], qw σ129761 α145873 κ ρ, 0, 0) := by
                  intro n
                  induction n with
                  | zero => intro ls u145871 α145873 hm g145865 g145866 g145867 g145868 g145869 g145870 hf145876 hI145874 hF145875 hx145877; exact False.elim (by omega)
                  | succ n ih145879 =>
                    intro ls u145871 α145873 hm g145865 g145866 g145867 g145868 g145869 g145870 hf145876 hI145874 hF145875 hx145877
                    refine qr_iload 66 rfl g145870 rfl ?_
                    refine qr_aload_n 67 rfl g145865 rfl ?_
                    refine qr_get 70 rfl rfl rfl (by decide) rfl ?_
                    refine qy_v (σ 64 2) ((hG129763.1 64 2 (by decide)).trans ((hk129747).trans rfl)) ?_
                    refine qr_icmp_ge 127 73 rfl rfl rfl (qrg hf145876 (by decide) (by decide)) (qrg hz64_2 (by decide) (by decide)) (fun h145934 => ?_) (fun h145934 => ?_)
                    · skip
                      refine qr_iinc _ 130 rfl g145869 (by decide) rfl rfl ?_
                      refine qr_goto 52 rfl rfl ?_
                      exact ih144067 _ (u144059 + 1) α145873 (by omega) (qm_gk g145865 (by decide) (Or.inl (by decide))) (qm_gk g145866 (by decide) (Or.inl (by decide))) (qm_gk g145867 (by decide) (Or.inl (by decide))) (qm_gk g145868 (by decide) (Or.inr rfl)) (qm_ge _ _ _) (by omega) hI145874 hF145875 hx145877
                    · skip
                      refine qr_iload 75 rfl g145869 rfl ?_
                      refine qr_iload 77 rfl g145870 rfl ?_
                      have hJ145968 : ∀ (ls : qm_L) (α145964 : Nat → Nat → Int), qm_get ls 0 = some (.ref 64) → qm_get ls 1 = some (.int (qz x1)) → qm_get ls 2 = some (.int (qz x2)) → qm_get ls 4 = some (.int (qz u129742)) → qm_get ls 5 = some (.int (qz u144059)) → qm_get ls 6 = some (.int (qz u145871)) → qI σ129761 α145964 κ ρ → qFr [(58, 11), (58, 12), (64, 7)] [60, 61, 62, 63, 68] σ α σ129761 α145964 → qSt σ129761 α145964 → qr_W (qe L xs vb) (d + 4) qx_e128 (fun r w' => ∃ σ' α', w' = qw σ' α' κ ρ ∧ qI σ' α' κ ρ ∧ qFr [(58, 11), (58, 12), (64, 7)] [60, 61, 62, 63, 68] σ α σ' α' ∧ σ' 58 12 ≤ σ 58 12 + 6 ∧ σ' 58 12 ≥ σ 58 12 ∧ r = none ∧ qSt σ' α') (121, ls, [], qw σ129761 α145964 κ ρ, 0, 0) := by
                        intro ls α145964 g145957 g145958 g145959 g145960 g145961 g145962 hI145965 hF145966 hx145967
                        refine qr_iinc _ 124 rfl g145962 (by decide) rfl rfl ?_
                        refine qr_goto 64 rfl rfl ?_
                        exact ih145879 _ (u145871 + 1) α145964 (by omega) (qm_gk g145957 (by decide) (Or.inl (by decide))) (qm_gk g145958 (by decide) (Or.inl (by decide))) (qm_gk g145959 (by decide) (Or.inl (by decide))) (qm_gk g145960 (by decide) (Or.inl (by decide))) (qm_gk g145961 (by decide) (Or.inr rfl)) (qm_ge _ _ _) (by omega) hI145965 hF145966 hx145967
                      refine qr_icmp_eq 121 80 rfl rfl rfl (qrg hf144064 (by decide) (by decide)) (qrg hf145876 (by decide) (by decide)) (fun h145969 => ?_) (fun h145969 => ?_)
                      · skip
                        exact hJ145968 _ α145873 g145865 g145866 g145867 g145868 g145869 g145870 hI145874 hF145875 hx145877
                      · skip
                        refine qr_aload_n 81 rfl g145865 rfl ?_
                        refine qr_aload_n 82 rfl g145865 rfl ?_
                        refine qr_get 85 rfl rfl rfl (by decide) rfl ?_
                        refine qr_iload 87 rfl g145869 rfl ?_
                        refine qr_iaload 88 rfl rfl (qrgi hf144064 (by decide) (by decide)) (by decide) rfl ?_
                        refine qr_topI (fun v145970 hv145970 => ?_)
                        have hs145971 : 0 ≤ v145970 ∧ v145970 ≤ 31 := by rw [hv145970]; exact hI145874.2.1 65 _ (show _ < 12 from qrgt hf144064 (by decide) (by decide))
                        have hs145972 : σ129761 64 2 = (σ 64 2) := (hG129763.1 64 2 (by decide)).trans ((hk129747).trans rfl)
                        refine qr_aload_n 89 rfl g145865 rfl ?_
                        refine qr_get 92 rfl rfl rfl (by decide) rfl ?_
                        refine qr_iload 94 rfl g145870 rfl ?_
                        refine qr_iaload 95 rfl rfl (qrgi hf145876 (by decide) (by decide)) (by decide) rfl ?_
                        refine qr_topI (fun v145973 hv145973 => ?_)
                        have hs145974 : 0 ≤ v145973 ∧ v145973 ≤ 31 := by rw [hv145973]; exact hI145874.2.1 65 _ (show _ < 12 from qrgt hf145876 (by decide) (by decide))
                        have hs145975 : σ129761 64 2 = (σ 64 2) := (hG129763.1 64 2 (by decide)).trans ((hk129747).trans rfl)
                        have hs145976 := qI_li hI145874 (u144059) (u145871)
                        refine qr_callN 98 rfl rfl rfl (sf_129_64s (d := d + 0) hI145874 hs145971 hs145974 (by omega) hx145877) ?_
                        rintro _ _ ⟨α145979, rfl, hI145980, hG145981, v145977, rfl, hv145977, hx145978⟩
                        have hF145982 : qFr [(58, 11), (58, 12), (64, 7)] [60, 61, 62, 63, 68] σ α σ129761 α145979 := qFr_t hF145875 hG145981 (by decide) (by decide)
                        show qr_W (qe L xs vb) (d + 4) qx_e128 _ (98, _, [.int (qz v145977)], qw σ129761 α145979 κ ρ, 0, 0)
                        refine qr_if_eq 121 101 rfl rfl rfl (qrg hv145977 (by decide) (by decide)) (fun h145983 => ?_) (fun h145983 => ?_)
                        · skip
                          exact hJ145968 _ α145979 g145865 g145866 g145867 g145868 g145869 g145870 hI145980 hF145982 hx145978
                        · skip
                          refine qr_aload_n 102 rfl g145865 rfl ?_
                          refine qr_get 105 rfl rfl rfl (by decide) rfl ?_
                          refine qr_iload 107 rfl g145868 rfl ?_
                          refine qr_bipush 109 rfl (by decide) rfl ?_
                          refine qr_imul 110 rfl rfl ?_
                          refine qr_iload 112 rfl g145869 rfl ?_
                          refine qr_iadd 113 rfl rfl ?_
                          refine qr_dup2 114 rfl rfl rfl rfl ?_
                          refine qr_iaload 115 rfl rfl (by omega) (by decide) rfl ?_
                          refine qr_topI (fun v145984 hv145984 => ?_)
                          have hs145985 : (-2147483648) ≤ v145984 ∧ v145984 ≤ 2147483647 := by rw [hv145984]; exact hI145980.2.1 68 _ (show _ < 36 by omega)
                          refine qr_iconst 116 rfl rfl ?_
                          refine qr_iload 118 rfl g145870 rfl ?_
                          refine qr_ishl 119 rfl rfl ?_
                          refine qy_shl1 (N := 5) (by omega) (fun v145986 hv145986 => ?_)
                          refine qr_ior 120 rfl rfl ?_
                          refine qy_can (fun v145987 hv145987 => ?_)
                          refine qr_iastore 121 rfl (by decide) rfl (by omega) (by decide) rfl ?_
                          refine qy_wA (qw_r α145979 68 (qzu (α145979 68) (((u129742 * 6) + u144059) : Int).toNat v145987)) rfl (fun α145988 e145989 => ?_)
                          have hI145990 : qI σ129761 α145988 κ ρ := by rw [e145989]; exact qI_r hI145980 68 _ rfl (show (-2147483648) ≤ v145987 ∧ v145987 ≤ 2147483647 by omega)
                          have hF145991 : qFr [(58, 11), (58, 12), (64, 7)] [60, 61, 62, 63, 68] σ α σ129761 α145988 := by rw [e145989]; exact qFr_r hF145982 68 _ (by decide)
                          have hy145992 : qSt σ129761 α145988 := qSt_c rfl (by rw [e145989]; exact qw_r_ne (by decide)) (by rw [e145989]; exact qw_r_ne (by decide)) hx145978
                          exact hJ145968 _ α145988 g145865 g145866 g145867 g145868 g145869 g145870 hI145990 hF145991 hy145992
                exact hL145878 ((6 - 0 + 1 : Int)).toNat _ 0 α144061 (by omega) (qm_gk g144054 (by decide) (Or.inl (by decide))) (qm_gk g144055 (by decide) (Or.inl (by decide))) (qm_gk g144056 (by decide) (Or.inl (by decide))) (qm_gk g144057 (by decide) (Or.inl (by decide))) (qm_gk g144058 (by decide) (Or.inr rfl)) (qm_ge _ _ _) (by decide) hI144062 hF144063 hx144065
          exact hL144066 ((6 - 0 + 1 : Int)).toNat _ 0 α129744 (by omega) (qm_gk g129738 (by decide) (Or.inl (by decide))) (qm_gk g129739 (by decide) (Or.inl (by decide))) (qm_gk g129740 (by decide) (Or.inl (by decide))) (qm_gk g129741 (by decide) (Or.inr rfl)) (qm_ge _ _ _) (by decide) hI129762 hF129764 hx129759
    exact hL129753 ((6 - 0 + 1 : Int)).toNat _ 0 σ8 α13 (by omega) (qm_gk g2 (by decide) (Or.inl (by decide))) (qm_gk g3 (by decide) (Or.inl (by decide))) (qm_gk g4 (by decide) (Or.inl (by decide))) (qm_ge _ _ _) (by decide) hI14 hF16 ((congrFun (congrFun e9 64) 2).trans rfl) ((congrFun (congrFun e9 64) 7).trans rfl) (by have hw : σ8 58 12 = (σ 58 12) := (congrFun (congrFun e9 58) 12).trans rfl; omega) (by have hw : σ8 58 12 = (σ 58 12) := (congrFun (congrFun e9 58) 12).trans rfl; omega) hy17
  refine qr_icmp_ge 10 6 rfl rfl rfl (qrg r2 (by decide) (by decide)) (by decide) (fun h145993 => ?_) (fun h145993 => ?_)
  · skip
    refine qr_iload_n 11 rfl rfl rfl ?_
    refine qr_iload_n 12 rfl rfl rfl ?_
    refine qr_idiv 13 rfl (qrg r3 (by decide) (by decide)) (by omega) rfl ?_
    refine qy_can (fun v145994 hv145994 => ?_)
    exact hJ7 _ v145994 rfl rfl rfl hv145994
  · skip
    refine qr_iconst 7 rfl rfl ?_
    refine qr_goto 13 rfl rfl ?_
    exact hJ7 _ 0 rfl rfl rfl (by decide)

set_option maxHeartbeats 4000000 in
set_option maxRecDepth 20000 in
/-- OneRoof.together -/
theorem sf_99_16s {L : Nat} {xs : Nat → Int} {vb : Bool} {d : Nat} {σ α : Nat → Nat → Int} {κ : Nat → Option Nat} {ρ : Nat} {x1 : Int} {x2 : Int} {x3 : Int} (hI : qI σ α κ ρ) (r1 : (-9223372036854775808) ≤ x1 ∧ x1 ≤ 9223372036854775807) (r2 : (-2147483648) ≤ x2 ∧ x2 ≤ 2147483647) (r3 : (-2147483648) ≤ x3 ∧ x3 ≤ 2147483647) (p0 : qSt σ α) (p1 : 0 ≤ σ 58 12 ∧ σ 58 12 ≤ 1900000000) : qm_T (qe L xs vb) (d + 6) 99 [.ref 16, .long (ql x1), .int (qz x2), .int (qz x3)] (qw σ α κ ρ) (fun r w' => ∃ σ' α', w' = qw σ' α' κ ρ ∧ qI σ' α' κ ρ ∧ qFr [(58, 11), (58, 12)] [53, 57, 59, 60, 61, 62, 63, 85] σ α σ' α' ∧ σ' 58 12 ≤ σ 58 12 + 48 ∧ σ' 58 12 ≥ σ 58 12 ∧ ∃ v : Int, r = some (.int (qz v)) ∧ ((-2147483648) ≤ v ∧ v ≤ 2147483647) ∧ qSt σ' α') := by
  refine qr_start (d := d + 5) qv_e99 (Nat.le_of_ble_eq_true rfl) ?_
  show qr_W (qe L xs vb) (d + 5) qx_e99 _ (0, [(0, .ref 16), (1, .long (ql x1)), (3, .int (qz x2)), (4, .int (qz x3))], [], _, 0, 0)
  have hF0 := qFr_rf [(58, 11), (58, 12)] [53, 57, 59, 60, 61, 62, 63, 85] σ α
  have hz58_12 : (-2147483648) ≤ σ 58 12 ∧ σ 58 12 ≤ 2147483647 := hI.1 58 12
  refine qr_aload_n 1 rfl rfl rfl ?_
  refine qr_get 4 rfl rfl rfl (by decide) rfl ?_
  refine qr_lload_n 5 rfl rfl rfl ?_
  refine qr_callN 8 rfl rfl rfl (sf_88_17 (d := d + 4) hI r1) ?_
  rintro _ _ ⟨rfl, v1, rfl, hv1⟩
  show qr_W (qe L xs vb) (d + 5) qx_e99 _ (8, _, [.int (qz v1)], qw σ α κ ρ, 0, 0)
  refine qr_if_eq 29 11 rfl rfl rfl (qrg hv1 (by decide) (by decide)) (fun h2 => ?_) (fun h2 => ?_)
  · skip
    refine qr_iconst 30 rfl rfl ?_
    refine qr_retI rfl rfl (by decide) (by decide) ?_
    exact ⟨_, _, rfl, hI, hF0, (by have hw : σ 58 12 = (σ 58 12) := rfl; omega), (by have hw : σ 58 12 = (σ 58 12) := rfl; omega), (-1), rfl, (by decide), p0⟩
  · skip
    refine qr_iload_n 12 rfl rfl rfl ?_
    refine qr_callN 15 rfl rfl rfl (sf_100 (d := d + 2) hI r2) ?_
    rintro _ _ ⟨rfl, v3, rfl, hv3, hp4⟩
    show qr_W (qe L xs vb) (d + 5) qx_e99 _ (15, _, [.int (qz v3)], qw σ α κ ρ, 0, 0)
    refine qr_if_eq 29 18 rfl rfl rfl (qrg hv3 (by decide) (by decide)) (fun h5 => ?_) (fun h5 => ?_)
    · skip
      refine qr_iconst 30 rfl rfl ?_
      refine qr_retI rfl rfl (by decide) (by decide) ?_
      exact ⟨_, _, rfl, hI, hF0, (by have hw : σ 58 12 = (σ 58 12) := rfl; omega), (by have hw : σ 58 12 = (σ 58 12) := rfl; omega), (-1), rfl, (by decide), p0⟩
    · skip
      refine qr_iload 20 rfl rfl rfl ?_
      refine qr_if_lt 29 23 rfl rfl rfl r3 (fun h6 => ?_) (fun h6 => ?_)
      · skip
        refine qr_iconst 30 rfl rfl ?_
        refine qr_retI rfl rfl (by decide) (by decide) ?_
        exact ⟨_, _, rfl, hI, hF0, (by have hw : σ 58 12 = (σ 58 12) := rfl; omega), (by have hw : σ 58 12 = (σ 58 12) := rfl; omega), (-1), rfl, (by decide), p0⟩
      · skip
        refine qr_iload 25 rfl rfl rfl ?_
        refine qr_iconst 26 rfl rfl ?_
        refine qr_icmp_le 31 29 rfl rfl rfl r3 (by decide) (fun h7 => ?_) (fun h7 => ?_)
        · skip
          refine qr_lload_n 32 rfl rfl rfl ?_
          refine qr_aload_n 33 rfl rfl rfl ?_
          refine qr_get 36 rfl rfl rfl (by decide) rfl ?_
          refine qr_get 39 rfl rfl rfl (by decide) rfl ?_
          have hs8 : (-9223372036854775808) ≤ σ 17 5 ∧ σ 17 5 ≤ 9223372036854775807 := hI.1 17 5
          refine qr_ldc2 (-1) 42 rfl (by decide) rfl ?_
          refine qr_lxor 43 rfl rfl ?_
          refine qy_canl (fun v9 hv9 => ?_)
          refine qr_land 44 rfl rfl ?_
          refine qy_canl (fun v10 hv10 => ?_)
          refine qr_lstore _ 46 rfl (by decide) rfl rfl ?_
          refine qr_iload_n 47 rfl rfl rfl ?_
          refine qr_sipush 50 rfl (by decide) rfl ?_
          refine qr_idiv 51 rfl (by omega) (by decide) rfl ?_
          refine qr_istore _ 53 rfl (by decide) rfl rfl ?_
          refine qr_iload_n 54 rfl rfl rfl ?_
          refine qr_sipush 57 rfl (by decide) rfl ?_
          refine qr_irem 58 rfl (by omega) (by decide) rfl ?_
          refine qr_istore _ 60 rfl (by decide) rfl rfl ?_
          refine qr_iload 62 rfl rfl rfl ?_
          refine qr_istore _ 64 rfl (by decide) rfl rfl ?_
          have hL461 : ∀ (n : Nat) (ls : qm_L) (u449 : Int) (σ450 α451 : Nat → Nat → Int), 10000 - u449 < (n : Int) → qm_get ls 0 = some (.ref 16) → qm_get ls 4 = some (.int (qz x3)) → qm_get ls 5 = some (.long (ql v10)) → qm_get ls 7 = some (.int (qz (x2 / 10000))) → qm_get ls 8 = some (.int (qz (x2 % 10000))) → qm_get ls 9 = some (.int (qz u449)) → (0 ≤ u449 ∧ u449 ≤ 10000) → qI σ450 α451 κ ρ → qFr [(58, 11), (58, 12)] [53, 57, 59, 60, 61, 62, 63, 85] σ α σ450 α451 → σ450 17 5 = (σ 17 5) → σ450 58 12 ≤ σ 58 12 + (u449 - (x2 / 10000)) → σ 58 12 ≤ σ450 58 12 → (u449 = (x2 / 10000) ∨ u449 ≤ (x2 % 10000) + 1) → qSt σ450 α451 → (x2 / 10000) ≤ u449 → qr_W (qe L xs vb) (d + 5) qx_e99 (fun r w' => ∃ σ' α', w' = qw σ' α' κ ρ ∧ qI σ' α' κ ρ ∧ qFr [(58, 11), (58, 12)] [53, 57, 59, 60, 61, 62, 63, 85] σ α σ' α' ∧ σ' 58 12 ≤ σ 58 12 + 48 ∧ σ' 58 12 ≥ σ 58 12 ∧ ∃ v : Int, r = some (.int (qz v)) ∧ ((-2147483648) ≤ v ∧ v ≤ 2147483647) ∧ qSt σ' α') (64, ls, [], qw σ450 α451 κ ρ, 0, 0) := by
            intro n
            induction n with
            | zero => intro ls u449 σ450 α451 hm g443 g444 g445 g446 g447 g448 hf455 hI452 hF453 hk454 hx456 hx457 hx458 hx459 hx460; exact False.elim (by omega)
            | succ n ih462 =>
              intro ls u449 σ450 α451 hm g443 g444 g445 g446 g447 g448 hf455 hI452 hF453 hk454 hx456 hx457 hx458 hx459 hx460
              have hs463 : (-2147483648) ≤ σ450 58 12 ∧ σ450 58 12 ≤ 2147483647 := hI452.1 58 12
              refine qr_iload 66 rfl g448 rfl ?_
              refine qr_iload 68 rfl g447 rfl ?_
              refine qr_icmp_gt 154 71 rfl rfl rfl (qrg hf455 (by decide) (by decide)) (by omega) (fun h464 => ?_) (fun h464 => ?_)
              · skip
                refine qr_bipush 156 rfl (by decide) rfl ?_
                refine qr_retI rfl rfl (by decide) (by decide) ?_
                exact ⟨_, _, rfl, hI452, hF453, (by have hw : σ450 58 12 = (σ450 58 12) := rfl; omega), (by have hw : σ450 58 12 = (σ450 58 12) := rfl; omega), (-2), rfl, (by decide), hx459⟩
              · skip
                refine qr_iload 73 rfl g448 rfl ?_
                refine qr_iload 75 rfl g446 rfl ?_
                refine qr_icmp_le 93 78 rfl rfl rfl (qrg hf455 (by decide) (by decide)) (by omega) (fun h465 => ?_) (fun h465 => ?_)
                · skip
                  refine qr_aload_n 94 rfl g443 rfl ?_
                  refine qr_get 97 rfl rfl rfl (by decide) rfl ?_
                  refine qr_iload 99 rfl g448 rfl ?_
                  have hs466 : (-2147483648) ≤ σ450 58 12 ∧ σ450 58 12 ≤ 2147483647 := hI452.1 58 12
                  refine qr_callN 102 rfl rfl rfl (sf_89_58s (d := d + 4) hI452 (qrg hf455 (by decide) (by decide)) hx459 (by omega)) ?_
                  rintro _ _ ⟨σ469, rfl, hI470, hG471, hw468, rfl, hx467⟩
                  have hF472 : qFr [(58, 11), (58, 12)] [53, 57, 59, 60, 61, 62, 63, 85] σ α σ469 α451 := qFr_t hF453 hG471 (by decide) (by decide)
                  have hs473 : (-2147483648) ≤ σ469 58 12 ∧ σ469 58 12 ≤ 2147483647 := hI470.1 58 12
                  show qr_W (qe L xs vb) (d + 5) qx_e99 _ (102, _, [], qw σ469 α451 κ ρ, 0, 0)
                  refine qr_aload_n 103 rfl g443 rfl ?_
                  refine qr_get 106 rfl rfl rfl (by decide) rfl ?_
                  refine qr_lload 108 rfl g445 rfl ?_
                  refine qr_callN 111 rfl rfl rfl (sf_104_58s (d := d + 0) hI470 hv10 hx467) ?_
                  rintro _ _ ⟨α477, rfl, hI478, hG479, v474, rfl, hv474, hp475, hx476⟩
                  have hF480 : qFr [(58, 11), (58, 12)] [53, 57, 59, 60, 61, 62, 63, 85] σ α σ469 α477 := qFr_t hF472 hG479 (by decide) (by decide)
                  show qr_W (qe L xs vb) (d + 5) qx_e99 _ (111, _, [.int (qz v474)], qw σ469 α477 κ ρ, 0, 0)
                  refine qr_istore _ 113 rfl (by decide) rfl rfl ?_
                  refine qr_iload 115 rfl (qm_ge _ _ _) rfl ?_
                  refine qr_if_lt 148 118 rfl rfl rfl (qrg hv474 (by decide) (by decide)) (fun h481 => ?_) (fun h481 => ?_)
                  · skip
                    refine qr_iinc _ 151 rfl (qm_gk g448 (by decide) (Or.inr rfl)) (by decide) rfl rfl ?_
                    refine qr_goto 64 rfl rfl ?_
                    exact ih462 _ (u449 + 1) σ469 α477 (by omega) (qm_gk (qm_gk g443 (by decide) (Or.inl (by decide))) (by decide) (Or.inl (by decide))) (qm_gk (qm_gk g444 (by decide) (Or.inl (by decide))) (by decide) (Or.inl (by decide))) (qm_gk (qm_gk g445 (by decide) (Or.inl (by decide))) (by decide) (Or.inl (by decide))) (qm_gk (qm_gk g446 (by decide) (Or.inl (by decide))) (by decide) (Or.inl (by decide))) (qm_gk (qm_gk g447 (by decide) (Or.inl (by decide))) (by decide) (Or.inr rfl)) (qm_ge _ _ _) (by omega) hI478 hF480 ((hG471.1 17 5 (by decide)).trans ((hk454).trans rfl)) (by have hw : σ469 58 12 = (σ469 58 12) := rfl; omega) (by have hw : σ469 58 12 = (σ469 58 12) := rfl; omega) (by omega) hx476 (by omega)
                  · skip
                    refine qr_iload 120 rfl (qm_gk g444 (by decide) (Or.inl (by decide))) rfl ?_
                    refine qr_if_ne 128 123 rfl rfl rfl r3 (fun h482 => ?_) (fun h482 => ?_)
                    · skip
                      refine qr_iload 130 rfl (qm_gk g444 (by decide) (Or.inl (by decide))) rfl ?_
                      refine qr_iconst 131 rfl rfl ?_
                      refine qr_icmp_ne 142 134 rfl rfl rfl r3 (by decide) (fun h483 => ?_) (fun h483 => ?_)
                      · skip
                        refine qr_iload 144 rfl (qm_ge _ _ _) rfl ?_
                        refine qr_bipush 146 rfl (by decide) rfl ?_
                        refine qr_irem 147 rfl (by omega) (by decide) rfl ?_
                        refine qr_retI rfl rfl (by decide) (by decide) ?_
                        exact ⟨_, _, rfl, hI478, hF480, (by have hw : σ469 58 12 = (σ469 58 12) := rfl; omega), (by have hw : σ469 58 12 = (σ469 58 12) := rfl; omega), (v474 % 100), rfl, (by omega), hx476⟩
                      · skip
                        refine qr_iload 136 rfl (qm_ge _ _ _) rfl ?_
                        refine qr_bipush 138 rfl (by decide) rfl ?_
                        refine qr_idiv 139 rfl (by omega) (by decide) rfl ?_
                        refine qr_goto 147 rfl rfl ?_
                        refine qr_retI rfl rfl (by decide) (by decide) ?_
                        exact ⟨_, _, rfl, hI478, hF480, (by have hw : σ469 58 12 = (σ469 58 12) := rfl; omega), (by have hw : σ469 58 12 = (σ469 58 12) := rfl; omega), (v474 / 100), rfl, (by omega), hx476⟩
                    · skip
                      refine qr_iload 125 rfl (qm_gk g448 (by decide) (Or.inr rfl)) rfl ?_
                      refine qr_goto 147 rfl rfl ?_
                      refine qr_retI rfl rfl (by decide) (by decide) ?_
                      exact ⟨_, _, rfl, hI478, hF480, (by have hw : σ469 58 12 = (σ469 58 12) := rfl; omega), (by have hw : σ469 58 12 = (σ469 58 12) := rfl; omega), u449, rfl, (qrg hf455 (by decide) (by decide)), hx476⟩
                · skip
                  refine qr_aload_n 79 rfl g443 rfl ?_
                  refine qr_get 82 rfl rfl rfl (by decide) rfl ?_
                  refine qr_iload 84 rfl g448 rfl ?_
                  refine qr_callN 87 rfl rfl rfl (sf_101_58 (d := d + 3) hI452 (qrg hf455 (by decide) (by decide))) ?_
                  rintro _ _ ⟨rfl, v484, rfl, hv484⟩
                  show qr_W (qe L xs vb) (d + 5) qx_e99 _ (87, _, [.int (qz v484)], qw σ450 α451 κ ρ, 0, 0)
                  refine qr_if_ne 93 90 rfl rfl rfl (qrg hv484 (by decide) (by decide)) (fun h485 => ?_) (fun h485 => ?_)
                  · skip
                    refine qr_aload_n 94 rfl g443 rfl ?_
                    refine qr_get 97 rfl rfl rfl (by decide) rfl ?_
                    refine qr_iload 99 rfl g448 rfl ?_
                    have hs486 : (-2147483648) ≤ σ450 58 12 ∧ σ450 58 12 ≤ 2147483647 := hI452.1 58 12
                    refine qr_callN 102 rfl rfl rfl (sf_89_58s (d := d + 4) hI452 (qrg hf455 (by decide) (by decide)) hx459 (by omega)) ?_
                    rintro _ _ ⟨σ489, rfl, hI490, hG491, hw488, rfl, hx487⟩
                    have hF492 : qFr [(58, 11), (58, 12)] [53, 57, 59, 60, 61, 62, 63, 85] σ α σ489 α451 := qFr_t hF453 hG491 (by decide) (by decide)
                    have hs493 : (-2147483648) ≤ σ489 58 12 ∧ σ489 58 12 ≤ 2147483647 := hI490.1 58 12
                    show qr_W (qe L xs vb) (d + 5) qx_e99 _ (102, _, [], qw σ489 α451 κ ρ, 0, 0)
                    refine qr_aload_n 103 rfl g443 rfl ?_
                    refine qr_get 106 rfl rfl rfl (by decide) rfl ?_
                    refine qr_lload 108 rfl g445 rfl ?_
                    refine qr_callN 111 rfl rfl rfl (sf_104_58s (d := d + 0) hI490 hv10 hx487) ?_
                    rintro _ _ ⟨α497, rfl, hI498, hG499, v494, rfl, hv494, hp495, hx496⟩
                    have hF500 : qFr [(58, 11), (58, 12)] [53, 57, 59, 60, 61, 62, 63, 85] σ α σ489 α497 := qFr_t hF492 hG499 (by decide) (by decide)
                    show qr_W (qe L xs vb) (d + 5) qx_e99 _ (111, _, [.int (qz v494)], qw σ489 α497 κ ρ, 0, 0)
                    refine qr_istore _ 113 rfl (by decide) rfl rfl ?_
                    refine qr_iload 115 rfl (qm_ge _ _ _) rfl ?_
                    refine qr_if_lt 148 118 rfl rfl rfl (qrg hv494 (by decide) (by decide)) (fun h501 => ?_) (fun h501 => ?_)
                    · skip
                      refine qr_iinc _ 151 rfl (qm_gk g448 (by decide) (Or.inr rfl)) (by decide) rfl rfl ?_
                      refine qr_goto 64 rfl rfl ?_
                      exact ih462 _ (u449 + 1) σ489 α497 (by omega) (qm_gk (qm_gk g443 (by decide) (Or.inl (by decide))) (by decide) (Or.inl (by decide))) (qm_gk (qm_gk g444 (by decide) (Or.inl (by decide))) (by decide) (Or.inl (by decide))) (qm_gk (qm_gk g445 (by decide) (Or.inl (by decide))) (by decide) (Or.inl (by decide))) (qm_gk (qm_gk g446 (by decide) (Or.inl (by decide))) (by decide) (Or.inl (by decide))) (qm_gk (qm_gk g447 (by decide) (Or.inl (by decide))) (by decide) (Or.inr rfl)) (qm_ge _ _ _) (by omega) hI498 hF500 ((hG491.1 17 5 (by decide)).trans ((hk454).trans rfl)) (by have hw : σ489 58 12 = (σ489 58 12) := rfl; omega) (by have hw : σ489 58 12 = (σ489 58 12) := rfl; omega) (by omega) hx496 (by omega)
                    · skip
                      refine qr_iload 120 rfl (qm_gk g444 (by decide) (Or.inl (by decide))) rfl ?_
                      refine qr_if_ne 128 123 rfl rfl rfl r3 (fun h502 => ?_) (fun h502 => ?_)
                      · skip
                        refine qr_iload 130 rfl (qm_gk g444 (by decide) (Or.inl (by decide))) rfl ?_
                        refine qr_iconst 131 rfl rfl ?_
                        refine qr_icmp_ne 142 134 rfl rfl rfl r3 (by decide) (fun h503 => ?_) (fun h503 => ?_)
                        · skip
                          refine qr_iload 144 rfl (qm_ge _ _ _) rfl ?_
                          refine qr_bipush 146 rfl (by decide) rfl ?_
                          refine qr_irem 147 rfl (by omega) (by decide) rfl ?_
                          refine qr_retI rfl rfl (by decide) (by decide) ?_
                          exact ⟨_, _, rfl, hI498, hF500, (by have hw : σ489 58 12 = (σ489 58 12) := rfl; omega), (by have hw : σ489 58 12 = (σ489 58 12) := rfl; omega), (v494 % 100), rfl, (by omega), hx496⟩
                        · skip
                          refine qr_iload 136 rfl (qm_ge _ _ _) rfl ?_
                          refine qr_bipush 138 rfl (by decide) rfl ?_
                          refine qr_idiv 139 rfl (by omega) (by decide) rfl ?_
                          refine qr_goto 147 rfl rfl ?_
                          refine qr_retI rfl rfl (by decide) (by decide) ?_
                          exact ⟨_, _, rfl, hI498, hF500, (by have hw : σ489 58 12 = (σ489 58 12) := rfl; omega), (by have hw : σ489 58 12 = (σ489 58 12) := rfl; omega), (v494 / 100), rfl, (by omega), hx496⟩
                      · skip
                        refine qr_iload 125 rfl (qm_gk g448 (by decide) (Or.inr rfl)) rfl ?_
                        refine qr_goto 147 rfl rfl ?_
                        refine qr_retI rfl rfl (by decide) (by decide) ?_
                        exact ⟨_, _, rfl, hI498, hF500, (by have hw : σ489 58 12 = (σ489 58 12) := rfl; omega), (by have hw : σ489 58 12 = (σ489 58 12) := rfl; omega), u449, rfl, (qrg hf455 (by decide) (by decide)), hx496⟩
                  · skip
                    refine qr_goto 148 rfl rfl ?_
                    refine qr_iinc _ 151 rfl g448 (by decide) rfl rfl ?_
                    refine qr_goto 64 rfl rfl ?_
                    exact ih462 _ (u449 + 1) σ450 α451 (by omega) (qm_gk g443 (by decide) (Or.inl (by decide))) (qm_gk g444 (by decide) (Or.inl (by decide))) (qm_gk g445 (by decide) (Or.inl (by decide))) (qm_gk g446 (by decide) (Or.inl (by decide))) (qm_gk g447 (by decide) (Or.inr rfl)) (qm_ge _ _ _) (by omega) hI452 hF453 ((hk454).trans rfl) (by have hw : σ450 58 12 = (σ450 58 12) := rfl; omega) (by have hw : σ450 58 12 = (σ450 58 12) := rfl; omega) (by omega) hx459 (by omega)
          exact hL461 ((10000 - (x2 / 10000) + 1 : Int)).toNat _ (x2 / 10000) σ α (by omega) rfl rfl rfl rfl rfl rfl (by omega) hI hF0 (rfl) (by have hw : σ 58 12 = (σ 58 12) := rfl; omega) (by have hw : σ 58 12 = (σ 58 12) := rfl; omega) (by omega) p0 (by omega)
        · skip
          refine qr_iconst 30 rfl rfl ?_
          refine qr_retI rfl rfl (by decide) (by decide) ?_
          exact ⟨_, _, rfl, hI, hF0, (by have hw : σ 58 12 = (σ 58 12) := rfl; omega), (by have hw : σ 58 12 = (σ 58 12) := rfl; omega), (-1), rfl, (by decide), p0⟩

set_option maxHeartbeats 4000000 in
set_option maxRecDepth 20000 in
/-- OneRoof.bars -/
theorem sf_105_16s {L : Nat} {xs : Nat → Int} {vb : Bool} {d : Nat} {σ α : Nat → Nat → Int} {κ : Nat → Option Nat} {ρ : Nat} {x1 : Int} {x2 : Int} (hI : qI σ α κ ρ) (r1 : (-2147483648) ≤ x1 ∧ x1 ≤ 2147483647) (r2 : (-2147483648) ≤ x2 ∧ x2 ≤ 2147483647) (p0 : qSt σ α) (p1 : 0 ≤ σ 58 12 ∧ σ 58 12 ≤ 1900000000) : qm_T (qe L xs vb) (d + 7) 105 [.ref 16, .int (qz x1), .int (qz x2)] (qw σ α κ ρ) (fun r w' => ∃ σ' α', w' = qw σ' α' κ ρ ∧ qI σ' α' κ ρ ∧ qFr [(58, 11), (58, 12)] [53, 57, 59, 60, 61, 62, 63, 85] σ α σ' α' ∧ σ' 58 12 ≤ σ 58 12 + 48 ∧ σ' 58 12 ≥ σ 58 12 ∧ ∃ v : Int, r = some (.int (qz v)) ∧ ((-2147483648) ≤ v ∧ v ≤ 2147483647) ∧ qSt σ' α') := by
  refine qr_start (d := d + 6) qv_e105 (Nat.le_of_ble_eq_true rfl) ?_
  show qr_W (qe L xs vb) (d + 6) qx_e105 _ (0, [(0, .ref 16), (1, .int (qz x1)), (2, .int (qz x2))], [], _, 0, 0)
  have hF0 := qFr_rf [(58, 11), (58, 12)] [53, 57, 59, 60, 61, 62, 63, 85] σ α
  have hz58_12 : (-2147483648) ≤ σ 58 12 ∧ σ 58 12 ≤ 2147483647 := hI.1 58 12
  refine qr_aload_n 1 rfl rfl rfl ?_
  refine qr_get 4 rfl rfl rfl (by decide) rfl ?_
  refine qr_iload_n 5 rfl rfl rfl ?_
  refine qr_callN 8 rfl rfl rfl (sf_61_17 (d := d + 4) hI r1) ?_
  have hs3 : 0 ≤ σ 17 6 ∧ σ 17 6 ≤ 32 := hI.1 17 6
  rintro _ _ ⟨rfl, v1, rfl, hv1, hp2⟩
  show qr_W (qe L xs vb) (d + 6) qx_e105 _ (8, _, [.int (qz v1)], qw σ α κ ρ, 0, 0)
  refine qr_if_eq 18 11 rfl rfl rfl (qrg hv1 (by decide) (by decide)) (fun h4 => ?_) (fun h4 => ?_)
  · skip
    refine qr_iconst 19 rfl rfl ?_
    refine qr_retI rfl rfl (by decide) (by decide) ?_
    exact ⟨_, _, rfl, hI, hF0, (by have hw : σ 58 12 = (σ 58 12) := rfl; omega), (by have hw : σ 58 12 = (σ 58 12) := rfl; omega), (-1), rfl, (by decide), p0⟩
  · skip
    refine qr_iload_n 12 rfl rfl rfl ?_
    refine qr_callN 15 rfl rfl rfl (sf_100 (d := d + 3) hI r2) ?_
    rintro _ _ ⟨rfl, v5, rfl, hv5, hp6⟩
    show qr_W (qe L xs vb) (d + 6) qx_e105 _ (15, _, [.int (qz v5)], qw σ α κ ρ, 0, 0)
    refine qr_if_ne 20 18 rfl rfl rfl (qrg hv5 (by decide) (by decide)) (fun h7 => ?_) (fun h7 => ?_)
    · skip
      refine qr_aload_n 21 rfl rfl rfl ?_
      refine qr_get 24 rfl rfl rfl (by decide) rfl ?_
      refine qr_iload_n 25 rfl rfl rfl ?_
      refine qr_bipush 27 rfl (by decide) rfl ?_
      refine qr_idiv 28 rfl (by omega) (by decide) rfl ?_
      refine qr_iload_n 29 rfl rfl rfl ?_
      refine qr_bipush 31 rfl (by decide) rfl ?_
      refine qr_irem 32 rfl (by omega) (by decide) rfl ?_
      refine qr_iload_n 33 rfl rfl rfl ?_
      refine qr_sipush 36 rfl (by decide) rfl ?_
      refine qr_idiv 37 rfl (by omega) (by decide) rfl ?_
      refine qr_iload_n 38 rfl rfl rfl ?_
      refine qr_sipush 41 rfl (by decide) rfl ?_
      refine qr_irem 42 rfl (by omega) (by decide) rfl ?_
      have hs8 : (-2147483648) ≤ σ 58 12 ∧ σ 58 12 ≤ 2147483647 := hI.1 58 12
      refine qr_callN 45 rfl rfl rfl (sf_106_58s (d := d + 0) hI (by omega) (by omega) (by omega) (by omega) (by omega) (by omega) p0 (by omega)) ?_
      rintro _ _ ⟨σ13, α14, rfl, hI15, hG16, hw11, hw12, v9, rfl, hv9, hx10⟩
      have hF17 : qFr [(58, 11), (58, 12)] [53, 57, 59, 60, 61, 62, 63, 85] σ α σ13 α14 := qFr_t hF0 hG16 (by decide) (by decide)
      have hs18 : (-2147483648) ≤ σ13 58 12 ∧ σ13 58 12 ≤ 2147483647 := hI15.1 58 12
      show qr_W (qe L xs vb) (d + 6) qx_e105 _ (45, _, [.int (qz v9)], qw σ13 α14 κ ρ, 0, 0)
      refine qr_if_eq 52 48 rfl rfl rfl (qrg hv9 (by decide) (by decide)) (fun h19 => ?_) (fun h19 => ?_)
      · skip
        refine qr_iconst 53 rfl rfl ?_
        refine qr_retI rfl rfl (by decide) (by decide) ?_
        exact ⟨_, _, rfl, hI15, hF17, (by have hw : σ13 58 12 = (σ13 58 12) := rfl; omega), (by have hw : σ13 58 12 = (σ13 58 12) := rfl; omega), 0, rfl, (by decide), hx10⟩
      · skip
        refine qr_iconst 49 rfl rfl ?_
        refine qr_goto 53 rfl rfl ?_
        refine qr_retI rfl rfl (by decide) (by decide) ?_
        exact ⟨_, _, rfl, hI15, hF17, (by have hw : σ13 58 12 = (σ13 58 12) := rfl; omega), (by have hw : σ13 58 12 = (σ13 58 12) := rfl; omega), 1, rfl, (by decide), hx10⟩
    · skip
      refine qr_iconst 19 rfl rfl ?_
      refine qr_retI rfl rfl (by decide) (by decide) ?_
      exact ⟨_, _, rfl, hI, hF0, (by have hw : σ 58 12 = (σ 58 12) := rfl; omega), (by have hw : σ 58 12 = (σ 58 12) := rfl; omega), (-1), rfl, (by decide), p0⟩

set_option maxHeartbeats 4000000 in
set_option maxRecDepth 20000 in
/-- OneRoof.most -/
theorem sf_108_16s {L : Nat} {xs : Nat → Int} {vb : Bool} {d : Nat} {σ α : Nat → Nat → Int} {κ : Nat → Option Nat} {ρ : Nat} {x1 : Int} {x2 : Int} {x3 : Int} (hI : qI σ α κ ρ) (r1 : (-9223372036854775808) ≤ x1 ∧ x1 ≤ 9223372036854775807) (r2 : (-9223372036854775808) ≤ x2 ∧ x2 ≤ 9223372036854775807) (r3 : (-2147483648) ≤ x3 ∧ x3 ≤ 2147483647) (p0 : qSt σ α) (p1 : 0 ≤ σ 58 12 ∧ σ 58 12 ≤ 1900000000) : qm_T (qe L xs vb) (d + 8) 108 [.ref 16, .long (ql x1), .long (ql x2), .int (qz x3)] (qw σ α κ ρ) (fun r w' => ∃ σ' α', w' = qw σ' α' κ ρ ∧ qI σ' α' κ ρ ∧ qFr [(58, 11), (58, 12), (64, 2)] [53, 57, 59, 60, 61, 62, 63, 65, 66, 85] σ α σ' α' ∧ σ' 58 12 ≤ σ 58 12 + 6912 ∧ σ' 58 12 ≥ σ 58 12 ∧ ∃ v : Int, r = some (.long (ql v)) ∧ ((-9223372036854775808) ≤ v ∧ v ≤ 9223372036854775807) ∧ qSt σ' α') := by
  refine qr_start (d := d + 7) qv_e108 (Nat.le_of_ble_eq_true rfl) ?_
  show qr_W (qe L xs vb) (d + 7) qx_e108 _ (0, [(0, .ref 16), (1, .long (ql x1)), (3, .long (ql x2)), (5, .int (qz x3))], [], _, 0, 0)
  have hF0 := qFr_rf [(58, 11), (58, 12), (64, 2)] [53, 57, 59, 60, 61, 62, 63, 65, 66, 85] σ α
  have hz58_12 : (-2147483648) ≤ σ 58 12 ∧ σ 58 12 ≤ 2147483647 := hI.1 58 12
  refine qr_aload_n 1 rfl rfl rfl ?_
  refine qr_get 4 rfl rfl rfl (by decide) rfl ?_
  refine qr_lload_n 5 rfl rfl rfl ?_
  refine qr_callN 8 rfl rfl rfl (sf_88_17 (d := d + 6) hI r1) ?_
  rintro _ _ ⟨rfl, v1, rfl, hv1⟩
  show qr_W (qe L xs vb) (d + 7) qx_e108 _ (8, _, [.int (qz v1)], qw σ α κ ρ, 0, 0)
  refine qr_if_eq 31 11 rfl rfl rfl (qrg hv1 (by decide) (by decide)) (fun h2 => ?_) (fun h2 => ?_)
  · skip
    refine qr_ldc2 (-1) 34 rfl (by decide) rfl ?_
    refine qr_retL rfl rfl (by decide) (by decide) ?_
    exact ⟨_, _, rfl, hI, hF0, (by have hw : σ 58 12 = (σ 58 12) := rfl; omega), (by have hw : σ 58 12 = (σ 58 12) := rfl; omega), (-1), rfl, (by decide), p0⟩
  · skip
    refine qr_lload_n 12 rfl rfl rfl ?_
    refine qr_lload_n 13 rfl rfl rfl ?_
    refine qr_ldc2 (-1) 16 rfl (by decide) rfl ?_
    refine qr_lxor 17 rfl rfl ?_
    refine qy_canl (fun v3 hv3 => ?_)
    refine qr_land 18 rfl rfl ?_
    refine qy_canl (fun v4 hv4 => ?_)
    refine qr_lconst 19 rfl rfl ?_
    refine qy_vl 0 rfl ?_
    refine qr_lc_ne 31 23 rfl rfl rfl rfl hv4 (by decide) (fun h5 => ?_) (fun h5 => ?_)
    · skip
      refine qr_ldc2 (-1) 34 rfl (by decide) rfl ?_
      refine qr_retL rfl rfl (by decide) (by decide) ?_
      exact ⟨_, _, rfl, hI, hF0, (by have hw : σ 58 12 = (σ 58 12) := rfl; omega), (by have hw : σ 58 12 = (σ 58 12) := rfl; omega), (-1), rfl, (by decide), p0⟩
    · skip
      refine qr_iload 25 rfl rfl rfl ?_
      refine qr_callN 28 rfl rfl rfl (sf_100 (d := d + 4) hI r3) ?_
      rintro _ _ ⟨rfl, v6, rfl, hv6, hp7⟩
      show qr_W (qe L xs vb) (d + 7) qx_e108 _ (28, _, [.int (qz v6)], qw σ α κ ρ, 0, 0)
      refine qr_if_ne 35 31 rfl rfl rfl (qrg hv6 (by decide) (by decide)) (fun h8 => ?_) (fun h8 => ?_)
      · skip
        refine qr_lload_n 36 rfl rfl rfl ?_
        refine qr_aload_n 37 rfl rfl rfl ?_
        refine qr_get 40 rfl rfl rfl (by decide) rfl ?_
        refine qr_get 43 rfl rfl rfl (by decide) rfl ?_
        have hs9 : (-9223372036854775808) ≤ σ 17 5 ∧ σ 17 5 ≤ 9223372036854775807 := hI.1 17 5
        refine qr_ldc2 (-1) 46 rfl (by decide) rfl ?_
        refine qr_lxor 47 rfl rfl ?_
        refine qy_canl (fun v10 hv10 => ?_)
        refine qr_land 48 rfl rfl ?_
        refine qy_canl (fun v11 hv11 => ?_)
        refine qr_lstore _ 50 rfl (by decide) rfl rfl ?_
        refine qr_lload 52 rfl rfl rfl ?_
        refine qr_bipush 54 rfl (by decide) rfl ?_
        refine qr_callN 57 rfl rfl rfl (sf_109 (d := d + 5) hI hv11 (by decide)) ?_
        rintro _ _ ⟨rfl, v12, rfl, hv12, hp13⟩
        show qr_W (qe L xs vb) (d + 7) qx_e108 _ (57, _, [.int (qz v12)], qw σ α κ ρ, 0, 0)
        refine qr_if_ne 64 60 rfl rfl rfl (qrg hv12 (by decide) (by decide)) (fun h14 => ?_) (fun h14 => ?_)
        · skip
          refine qr_aload_n 65 rfl rfl rfl ?_
          refine qr_get 68 rfl rfl rfl (by decide) rfl ?_
          refine qr_lload 70 rfl rfl rfl ?_
          refine qr_callN 73 rfl rfl rfl (sf_110_64 (d := d + 5) hI hv11) ?_
          rintro _ _ ⟨σ16, α17, rfl, hI18, hG19, hw15, rfl⟩
          have hF20 : qFr [(58, 11), (58, 12), (64, 2)] [53, 57, 59, 60, 61, 62, 63, 65, 66, 85] σ α σ16 α17 := qFr_t hF0 hG19 (by decide) (by decide)
          have hs21 : 0 ≤ σ16 64 2 ∧ σ16 64 2 ≤ 12 := hI18.1 64 2
          have hy22 := qSt_fr hG19 (by decide) (by decide) p0
          show qr_W (qe L xs vb) (d + 7) qx_e108 _ (73, _, [], qw σ16 α17 κ ρ, 0, 0)
          refine qr_aload_n 74 rfl rfl rfl ?_
          refine qr_get 77 rfl rfl rfl (by decide) rfl ?_
          refine qr_iload 79 rfl rfl rfl ?_
          refine qr_sipush 82 rfl (by decide) rfl ?_
          refine qr_idiv 83 rfl (by omega) (by decide) rfl ?_
          refine qr_iload 85 rfl rfl rfl ?_
          refine qr_sipush 88 rfl (by decide) rfl ?_
          refine qr_irem 89 rfl (by omega) (by decide) rfl ?_
          have hs23 : (-2147483648) ≤ σ16 58 12 ∧ σ16 58 12 ≤ 2147483647 := hI18.1 58 12
          have hs24 : σ16 58 12 = (σ 58 12) := (hG19.1 58 12 (by decide)).trans rfl
          refine qr_callN 92 rfl rfl rfl (sf_111_64s (d := d + 0) hI18 (by omega) (by omega) (by omega) hy22 (by omega)) ?_
          rintro _ _ ⟨σ28, α29, rfl, hI30, hG31, hw26, hw27, rfl, hx25⟩
          have hF32 : qFr [(58, 11), (58, 12), (64, 2)] [53, 57, 59, 60, 61, 62, 63, 65, 66, 85] σ α σ28 α29 := qFr_t hF20 hG31 (by decide) (by decide)
          have hs33 : (-2147483648) ≤ σ28 58 12 ∧ σ28 58 12 ≤ 2147483647 := hI30.1 58 12
          show qr_W (qe L xs vb) (d + 7) qx_e108 _ (92, _, [], qw σ28 α29 κ ρ, 0, 0)
          refine qr_aload_n 93 rfl rfl rfl ?_
          refine qr_get 96 rfl rfl rfl (by decide) rfl ?_
          refine qr_lload_n 97 rfl rfl rfl ?_
          refine qr_lload 99 rfl rfl rfl ?_
          refine qr_land 100 rfl rfl ?_
          refine qy_canl (fun v34 hv34 => ?_)
          refine qr_callN 103 rfl rfl rfl (sf_112_64 (d := d + 4) hI30 hv34) ?_
          rintro _ _ ⟨rfl, v35, rfl, hv35⟩
          show qr_W (qe L xs vb) (d + 7) qx_e108 _ (103, _, [.long (ql v35)], qw σ28 α29 κ ρ, 0, 0)
          refine qr_retL rfl rfl (by decide) (by decide) ?_
          exact ⟨_, _, rfl, hI30, hF32, (by have hw : σ28 58 12 = (σ28 58 12) := rfl; omega), (by have hw : σ28 58 12 = (σ28 58 12) := rfl; omega), v35, rfl, hv35, hx25⟩
        · skip
          refine qr_ldc2 (-1) 63 rfl (by decide) rfl ?_
          refine qr_retL rfl rfl (by decide) (by decide) ?_
          exact ⟨_, _, rfl, hI, hF0, (by have hw : σ 58 12 = (σ 58 12) := rfl; omega), (by have hw : σ 58 12 = (σ 58 12) := rfl; omega), (-1), rfl, (by decide), p0⟩
      · skip
        refine qr_ldc2 (-1) 34 rfl (by decide) rfl ?_
        refine qr_retL rfl rfl (by decide) (by decide) ?_
        exact ⟨_, _, rfl, hI, hF0, (by have hw : σ 58 12 = (σ 58 12) := rfl; omega), (by have hw : σ 58 12 = (σ 58 12) := rfl; omega), (-1), rfl, (by decide), p0⟩

set_option maxHeartbeats 4000000 in
set_option maxRecDepth 20000 in
/-- OneRoof.rooms -/
theorem sf_117_16s {L : Nat} {xs : Nat → Int} {vb : Bool} {d : Nat} {σ α : Nat → Nat → Int} {κ : Nat → Option Nat} {ρ : Nat} {x1 : Int} {x2 : Int} {x3 : Int} (hI : qI σ α κ ρ) (r1 : (-9223372036854775808) ≤ x1 ∧ x1 ≤ 9223372036854775807) (r2 : (-2147483648) ≤ x2 ∧ x2 ≤ 2147483647) (r3 : (-2147483648) ≤ x3 ∧ x3 ≤ 2147483647) (p0 : qSt σ α) (p1 : 0 ≤ σ 58 12 ∧ σ 58 12 ≤ 1900000000) : qm_T (qe L xs vb) (d + 8) 117 [.ref 16, .long (ql x1), .int (qz x2), .int (qz x3)] (qw σ α κ ρ) (fun r w' => ∃ σ' α', w' = qw σ' α' κ ρ ∧ qI σ' α' κ ρ ∧ qFr [(58, 11), (58, 12), (64, 2)] [53, 57, 59, 60, 61, 62, 63, 65, 66, 67, 85] σ α σ' α' ∧ σ' 58 12 ≤ σ 58 12 + 6912 ∧ σ' 58 12 ≥ σ 58 12 ∧ ∃ v : Int, r = some (.long (ql v)) ∧ ((-9223372036854775808) ≤ v ∧ v ≤ 9223372036854775807) ∧ qSt σ' α') := by
  refine qr_start (d := d + 7) qv_e117 (Nat.le_of_ble_eq_true rfl) ?_
  show qr_W (qe L xs vb) (d + 7) qx_e117 _ (0, [(0, .ref 16), (1, .long (ql x1)), (3, .int (qz x2)), (4, .int (qz x3))], [], _, 0, 0)
  have hF0 := qFr_rf [(58, 11), (58, 12), (64, 2)] [53, 57, 59, 60, 61, 62, 63, 65, 66, 67, 85] σ α
  have hz58_12 : (-2147483648) ≤ σ 58 12 ∧ σ 58 12 ≤ 2147483647 := hI.1 58 12
  refine qr_aload_n 1 rfl rfl rfl ?_
  refine qr_get 4 rfl rfl rfl (by decide) rfl ?_
  refine qr_lload_n 5 rfl rfl rfl ?_
  refine qr_callN 8 rfl rfl rfl (sf_88_17 (d := d + 6) hI r1) ?_
  rintro _ _ ⟨rfl, v1, rfl, hv1⟩
  show qr_W (qe L xs vb) (d + 7) qx_e117 _ (8, _, [.int (qz v1)], qw σ α κ ρ, 0, 0)
  refine qr_if_eq 26 11 rfl rfl rfl (qrg hv1 (by decide) (by decide)) (fun h2 => ?_) (fun h2 => ?_)
  · skip
    refine qr_ldc2 (-1) 29 rfl (by decide) rfl ?_
    refine qr_retL rfl rfl (by decide) (by decide) ?_
    exact ⟨_, _, rfl, hI, hF0, (by have hw : σ 58 12 = (σ 58 12) := rfl; omega), (by have hw : σ 58 12 = (σ 58 12) := rfl; omega), (-1), rfl, (by decide), p0⟩
  · skip
    refine qr_iload_n 12 rfl rfl rfl ?_
    refine qr_callN 15 rfl rfl rfl (sf_100 (d := d + 4) hI r2) ?_
    rintro _ _ ⟨rfl, v3, rfl, hv3, hp4⟩
    show qr_W (qe L xs vb) (d + 7) qx_e117 _ (15, _, [.int (qz v3)], qw σ α κ ρ, 0, 0)
    refine qr_if_eq 26 18 rfl rfl rfl (qrg hv3 (by decide) (by decide)) (fun h5 => ?_) (fun h5 => ?_)
    · skip
      refine qr_ldc2 (-1) 29 rfl (by decide) rfl ?_
      refine qr_retL rfl rfl (by decide) (by decide) ?_
      exact ⟨_, _, rfl, hI, hF0, (by have hw : σ 58 12 = (σ 58 12) := rfl; omega), (by have hw : σ 58 12 = (σ 58 12) := rfl; omega), (-1), rfl, (by decide), p0⟩
    · skip
      refine qr_iload 20 rfl rfl rfl ?_
      refine qr_callN 23 rfl rfl rfl (sf_41 (d := d + 6) hI r3) ?_
      rintro _ _ ⟨rfl, v6, rfl, hv6, hp7⟩
      show qr_W (qe L xs vb) (d + 7) qx_e117 _ (23, _, [.int (qz v6)], qw σ α κ ρ, 0, 0)
      refine qr_if_ne 30 26 rfl rfl rfl (qrg hv6 (by decide) (by decide)) (fun h8 => ?_) (fun h8 => ?_)
      · skip
        refine qr_lload_n 31 rfl rfl rfl ?_
        refine qr_aload_n 32 rfl rfl rfl ?_
        refine qr_get 35 rfl rfl rfl (by decide) rfl ?_
        refine qr_get 38 rfl rfl rfl (by decide) rfl ?_
        have hs9 : (-9223372036854775808) ≤ σ 17 5 ∧ σ 17 5 ≤ 9223372036854775807 := hI.1 17 5
        refine qr_ldc2 (-1) 41 rfl (by decide) rfl ?_
        refine qr_lxor 42 rfl rfl ?_
        refine qy_canl (fun v10 hv10 => ?_)
        refine qr_land 43 rfl rfl ?_
        refine qy_canl (fun v11 hv11 => ?_)
        refine qr_lstore _ 45 rfl (by decide) rfl rfl ?_
        refine qr_lload 47 rfl rfl rfl ?_
        refine qr_bipush 49 rfl (by decide) rfl ?_
        refine qr_callN 52 rfl rfl rfl (sf_109 (d := d + 5) hI hv11 (by decide)) ?_
        rintro _ _ ⟨rfl, v12, rfl, hv12, hp13⟩
        show qr_W (qe L xs vb) (d + 7) qx_e117 _ (52, _, [.int (qz v12)], qw σ α κ ρ, 0, 0)
        refine qr_if_ne 59 55 rfl rfl rfl (qrg hv12 (by decide) (by decide)) (fun h14 => ?_) (fun h14 => ?_)
        · skip
          refine qr_aload_n 60 rfl rfl rfl ?_
          refine qr_get 63 rfl rfl rfl (by decide) rfl ?_
          refine qr_lload 65 rfl rfl rfl ?_
          refine qr_callN 68 rfl rfl rfl (sf_110_64 (d := d + 5) hI hv11) ?_
          rintro _ _ ⟨σ16, α17, rfl, hI18, hG19, hw15, rfl⟩
          have hF20 : qFr [(58, 11), (58, 12), (64, 2)] [53, 57, 59, 60, 61, 62, 63, 65, 66, 67, 85] σ α σ16 α17 := qFr_t hF0 hG19 (by decide) (by decide)
          have hs21 : 0 ≤ σ16 64 2 ∧ σ16 64 2 ≤ 12 := hI18.1 64 2
          have hy22 := qSt_fr hG19 (by decide) (by decide) p0
          show qr_W (qe L xs vb) (d + 7) qx_e117 _ (68, _, [], qw σ16 α17 κ ρ, 0, 0)
          refine qr_aload_n 69 rfl rfl rfl ?_
          refine qr_get 72 rfl rfl rfl (by decide) rfl ?_
          refine qr_iload_n 73 rfl rfl rfl ?_
          refine qr_sipush 76 rfl (by decide) rfl ?_
          refine qr_idiv 77 rfl (by omega) (by decide) rfl ?_
          refine qr_iload_n 78 rfl rfl rfl ?_
          refine qr_sipush 81 rfl (by decide) rfl ?_
          refine qr_irem 82 rfl (by omega) (by decide) rfl ?_
          have hs23 : (-2147483648) ≤ σ16 58 12 ∧ σ16 58 12 ≤ 2147483647 := hI18.1 58 12
          have hs24 : σ16 58 12 = (σ 58 12) := (hG19.1 58 12 (by decide)).trans rfl
          refine qr_callN 85 rfl rfl rfl (sf_111_64s (d := d + 0) hI18 (by omega) (by omega) (by omega) hy22 (by omega)) ?_
          rintro _ _ ⟨σ28, α29, rfl, hI30, hG31, hw26, hw27, rfl, hx25⟩
          have hF32 : qFr [(58, 11), (58, 12), (64, 2)] [53, 57, 59, 60, 61, 62, 63, 65, 66, 67, 85] σ α σ28 α29 := qFr_t hF20 hG31 (by decide) (by decide)
          have hs33 : (-2147483648) ≤ σ28 58 12 ∧ σ28 58 12 ≤ 2147483647 := hI30.1 58 12
          show qr_W (qe L xs vb) (d + 7) qx_e117 _ (85, _, [], qw σ28 α29 κ ρ, 0, 0)
          refine qr_aload_n 86 rfl rfl rfl ?_
          refine qr_get 89 rfl rfl rfl (by decide) rfl ?_
          refine qr_iload 91 rfl rfl rfl ?_
          refine qr_callN 94 rfl rfl rfl (sf_118_64 (d := d + 4) hI30 r3) ?_
          rintro _ _ ⟨α35, rfl, hI36, hG37, v34, rfl, hv34⟩
          have hF38 : qFr [(58, 11), (58, 12), (64, 2)] [53, 57, 59, 60, 61, 62, 63, 65, 66, 67, 85] σ α σ28 α35 := qFr_t hF32 hG37 (by decide) (by decide)
          have hy39 := qSt_fr hG37 (by decide) (by decide) hx25
          show qr_W (qe L xs vb) (d + 7) qx_e117 _ (94, _, [.long (ql v34)], qw σ28 α35 κ ρ, 0, 0)
          refine qr_retL rfl rfl (by decide) (by decide) ?_
          exact ⟨_, _, rfl, hI36, hF38, (by have hw : σ28 58 12 = (σ28 58 12) := rfl; omega), (by have hw : σ28 58 12 = (σ28 58 12) := rfl; omega), v34, rfl, hv34, hy39⟩
        · skip
          refine qr_ldc2 (-1) 58 rfl (by decide) rfl ?_
          refine qr_retL rfl rfl (by decide) (by decide) ?_
          exact ⟨_, _, rfl, hI, hF0, (by have hw : σ 58 12 = (σ 58 12) := rfl; omega), (by have hw : σ 58 12 = (σ 58 12) := rfl; omega), (-1), rfl, (by decide), p0⟩
      · skip
        refine qr_ldc2 (-1) 29 rfl (by decide) rfl ?_
        refine qr_retL rfl rfl (by decide) (by decide) ?_
        exact ⟨_, _, rfl, hI, hF0, (by have hw : σ 58 12 = (σ 58 12) := rfl; omega), (by have hw : σ 58 12 = (σ 58 12) := rfl; omega), (-1), rfl, (by decide), p0⟩

set_option maxHeartbeats 4000000 in
set_option maxRecDepth 20000 in
/-- OneRoof.leave -/
theorem sf_127_16s {L : Nat} {xs : Nat → Int} {vb : Bool} {d : Nat} {σ α : Nat → Nat → Int} {κ : Nat → Option Nat} {ρ : Nat} {x1 : Int} {x2 : Int} {x3 : Int} (hI : qI σ α κ ρ) (r1 : (-9223372036854775808) ≤ x1 ∧ x1 ≤ 9223372036854775807) (r2 : (-2147483648) ≤ x2 ∧ x2 ≤ 2147483647) (r3 : (-2147483648) ≤ x3 ∧ x3 ≤ 2147483647) (p0 : qSt σ α) (p1 : 0 ≤ σ 58 12 ∧ σ 58 12 ≤ 1900000000) : qm_T (qe L xs vb) (d + 10) 127 [.ref 16, .long (ql x1), .int (qz x2), .int (qz x3)] (qw σ α κ ρ) (fun r w' => ∃ σ' α', w' = qw σ' α' κ ρ ∧ qI σ' α' κ ρ ∧ qFr [(58, 11), (58, 12), (64, 2), (64, 7)] [60, 61, 62, 63, 65, 68, 69] σ α σ' α' ∧ σ' 58 12 ≤ σ 58 12 + 6 ∧ σ' 58 12 ≥ σ 58 12 ∧ ∃ v : Int, r = some (.int (qz v)) ∧ ((-2147483648) ≤ v ∧ v ≤ 2147483647) ∧ qSt σ' α') := by
  refine qr_start (d := d + 9) qv_e127 (Nat.le_of_ble_eq_true rfl) ?_
  show qr_W (qe L xs vb) (d + 9) qx_e127 _ (0, [(0, .ref 16), (1, .long (ql x1)), (3, .int (qz x2)), (4, .int (qz x3))], [], _, 0, 0)
  have hF0 := qFr_rf [(58, 11), (58, 12), (64, 2), (64, 7)] [60, 61, 62, 63, 65, 68, 69] σ α
  have hz58_12 : (-2147483648) ≤ σ 58 12 ∧ σ 58 12 ≤ 2147483647 := hI.1 58 12
  refine qr_aload_n 1 rfl rfl rfl ?_
  refine qr_get 4 rfl rfl rfl (by decide) rfl ?_
  refine qr_lload_n 5 rfl rfl rfl ?_
  refine qr_callN 8 rfl rfl rfl (sf_88_17 (d := d + 8) hI r1) ?_
  rintro _ _ ⟨rfl, v1, rfl, hv1⟩
  show qr_W (qe L xs vb) (d + 9) qx_e127 _ (8, _, [.int (qz v1)], qw σ α κ ρ, 0, 0)
  refine qr_if_eq 33 11 rfl rfl rfl (qrg hv1 (by decide) (by decide)) (fun h2 => ?_) (fun h2 => ?_)
  · skip
    refine qr_iconst 34 rfl rfl ?_
    refine qr_retI rfl rfl (by decide) (by decide) ?_
    exact ⟨_, _, rfl, hI, hF0, (by have hw : σ 58 12 = (σ 58 12) := rfl; omega), (by have hw : σ 58 12 = (σ 58 12) := rfl; omega), (-1), rfl, (by decide), p0⟩
  · skip
    refine qr_iload_n 12 rfl rfl rfl ?_
    refine qr_callN 15 rfl rfl rfl (sf_62 (d := d + 8) hI r2) ?_
    rintro _ _ ⟨rfl, v3, rfl, hv3, hp4⟩
    show qr_W (qe L xs vb) (d + 9) qx_e127 _ (15, _, [.int (qz v3)], qw σ α κ ρ, 0, 0)
    refine qr_if_eq 33 18 rfl rfl rfl (qrg hv3 (by decide) (by decide)) (fun h5 => ?_) (fun h5 => ?_)
    · skip
      refine qr_iconst 34 rfl rfl ?_
      refine qr_retI rfl rfl (by decide) (by decide) ?_
      exact ⟨_, _, rfl, hI, hF0, (by have hw : σ 58 12 = (σ 58 12) := rfl; omega), (by have hw : σ 58 12 = (σ 58 12) := rfl; omega), (-1), rfl, (by decide), p0⟩
    · skip
      refine qr_iload 20 rfl rfl rfl ?_
      refine qr_bipush 22 rfl (by decide) rfl ?_
      refine qr_icmp_lt 33 25 rfl rfl rfl r3 (by decide) (fun h6 => ?_) (fun h6 => ?_)
      · skip
        refine qr_iconst 34 rfl rfl ?_
        refine qr_retI rfl rfl (by decide) (by decide) ?_
        exact ⟨_, _, rfl, hI, hF0, (by have hw : σ 58 12 = (σ 58 12) := rfl; omega), (by have hw : σ 58 12 = (σ 58 12) := rfl; omega), (-1), rfl, (by decide), p0⟩
      · skip
        refine qr_iload 27 rfl rfl rfl ?_
        refine qr_sipush 30 rfl (by decide) rfl ?_
        refine qr_icmp_le 35 33 rfl rfl rfl r3 (by decide) (fun h7 => ?_) (fun h7 => ?_)
        · skip
          refine qr_lload_n 36 rfl rfl rfl ?_
          refine qr_aload_n 37 rfl rfl rfl ?_
          refine qr_get 40 rfl rfl rfl (by decide) rfl ?_
          refine qr_get 43 rfl rfl rfl (by decide) rfl ?_
          have hs8 : (-9223372036854775808) ≤ σ 17 5 ∧ σ 17 5 ≤ 9223372036854775807 := hI.1 17 5
          refine qr_ldc2 (-1) 46 rfl (by decide) rfl ?_
          refine qr_lxor 47 rfl rfl ?_
          refine qy_canl (fun v9 hv9 => ?_)
          refine qr_land 48 rfl rfl ?_
          refine qy_canl (fun v10 hv10 => ?_)
          refine qr_lstore _ 50 rfl (by decide) rfl rfl ?_
          refine qr_lload 52 rfl rfl rfl ?_
          refine qr_bipush 54 rfl (by decide) rfl ?_
          refine qr_callN 57 rfl rfl rfl (sf_109 (d := d + 7) hI hv10 (by decide)) ?_
          rintro _ _ ⟨rfl, v11, rfl, hv11, hp12⟩
          show qr_W (qe L xs vb) (d + 9) qx_e127 _ (57, _, [.int (qz v11)], qw σ α κ ρ, 0, 0)
          refine qr_if_ne 62 60 rfl rfl rfl (qrg hv11 (by decide) (by decide)) (fun h13 => ?_) (fun h13 => ?_)
          · skip
            refine qr_aload_n 63 rfl rfl rfl ?_
            refine qr_get 66 rfl rfl rfl (by decide) rfl ?_
            refine qr_lload 68 rfl rfl rfl ?_
            refine qr_callN 71 rfl rfl rfl (sf_110_64 (d := d + 7) hI hv10) ?_
            rintro _ _ ⟨σ15, α16, rfl, hI17, hG18, hw14, rfl⟩
            have hF19 : qFr [(58, 11), (58, 12), (64, 2), (64, 7)] [60, 61, 62, 63, 65, 68, 69] σ α σ15 α16 := qFr_t hF0 hG18 (by decide) (by decide)
            have hs20 : 0 ≤ σ15 64 2 ∧ σ15 64 2 ≤ 12 := hI17.1 64 2
            have hy21 := qSt_fr hG18 (by decide) (by decide) p0
            show qr_W (qe L xs vb) (d + 9) qx_e127 _ (71, _, [], qw σ15 α16 κ ρ, 0, 0)
            refine qr_aload_n 72 rfl rfl rfl ?_
            refine qr_get 75 rfl rfl rfl (by decide) rfl ?_
            refine qr_iload_n 76 rfl rfl rfl ?_
            refine qr_iload 78 rfl rfl rfl ?_
            refine qr_bipush 80 rfl (by decide) rfl ?_
            refine qr_idiv 81 rfl (by omega) (by decide) rfl ?_
            refine qr_iload 83 rfl rfl rfl ?_
            refine qr_bipush 85 rfl (by decide) rfl ?_
            refine qr_irem 86 rfl (by omega) (by decide) rfl ?_
            have hs22 : (-2147483648) ≤ σ15 58 12 ∧ σ15 58 12 ≤ 2147483647 := hI17.1 58 12
            have hs23 : σ15 58 12 = (σ 58 12) := (hG18.1 58 12 (by decide)).trans rfl
            have hs24 : 0 ≤ σ15 64 2 ∧ σ15 64 2 ≤ 12 := hI17.1 64 2
            refine qr_callN 89 rfl rfl rfl (sf_128_64s (d := d + 4) hI17 (by omega) (by omega) (by omega) (by omega) hy21 (by omega)) ?_
            rintro _ _ ⟨σ28, α29, rfl, hI30, hG31, hw26, hw27, rfl, hx25⟩
            have hF32 : qFr [(58, 11), (58, 12), (64, 2), (64, 7)] [60, 61, 62, 63, 65, 68, 69] σ α σ28 α29 := qFr_t hF19 hG31 (by decide) (by decide)
            have hs33 : (-2147483648) ≤ σ28 58 12 ∧ σ28 58 12 ≤ 2147483647 := hI30.1 58 12
            show qr_W (qe L xs vb) (d + 9) qx_e127 _ (89, _, [], qw σ28 α29 κ ρ, 0, 0)
            refine qr_aload_n 90 rfl rfl rfl ?_
            refine qr_get 93 rfl rfl rfl (by decide) rfl ?_
            have hs34 : 0 ≤ σ28 64 2 ∧ σ28 64 2 ≤ 12 := hI30.1 64 2
            have hs35 : σ28 64 2 = (σ15 64 2) := (hG31.1 64 2 (by decide)).trans rfl
            refine qr_callN 96 rfl rfl rfl (sf_130_64 (d := d + 0) hI30 (by omega)) ?_
            rintro _ _ ⟨α37, rfl, hI38, hG39, v36, rfl, hv36⟩
            have hF40 : qFr [(58, 11), (58, 12), (64, 2), (64, 7)] [60, 61, 62, 63, 65, 68, 69] σ α σ28 α37 := qFr_t hF32 hG39 (by decide) (by decide)
            have hy41 := qSt_fr hG39 (by decide) (by decide) hx25
            show qr_W (qe L xs vb) (d + 9) qx_e127 _ (96, _, [.int (qz v36)], qw σ28 α37 κ ρ, 0, 0)
            refine qr_retI rfl rfl (by decide) (by decide) ?_
            exact ⟨_, _, rfl, hI38, hF40, (by have hw : σ28 58 12 = (σ28 58 12) := rfl; omega), (by have hw : σ28 58 12 = (σ28 58 12) := rfl; omega), v36, rfl, hv36, hy41⟩
          · skip
            refine qr_iconst 61 rfl rfl ?_
            refine qr_retI rfl rfl (by decide) (by decide) ?_
            exact ⟨_, _, rfl, hI, hF0, (by have hw : σ 58 12 = (σ 58 12) := rfl; omega), (by have hw : σ 58 12 = (σ 58 12) := rfl; omega), (-1), rfl, (by decide), p0⟩
        · skip
          refine qr_iconst 34 rfl rfl ?_
          refine qr_retI rfl rfl (by decide) (by decide) ?_
          exact ⟨_, _, rfl, hI, hF0, (by have hw : σ 58 12 = (σ 58 12) := rfl; omega), (by have hw : σ 58 12 = (σ 58 12) := rfl; omega), (-1), rfl, (by decide), p0⟩

set_option maxHeartbeats 4000000 in
set_option maxRecDepth 20000 in
/-- OneRoof.must -/
theorem sf_87_16s {L : Nat} {xs : Nat → Int} {vb : Bool} {d : Nat} {σ α : Nat → Nat → Int} {κ : Nat → Option Nat} {ρ : Nat} {x1 : Int} {x2 : Int} {x3 : Int} (hI : qI σ α κ ρ) (r1 : (-2147483648) ≤ x1 ∧ x1 ≤ 2147483647) (r2 : (-9223372036854775808) ≤ x2 ∧ x2 ≤ 9223372036854775807) (r3 : (-2147483648) ≤ x3 ∧ x3 ≤ 2147483647) (p0 : qSt σ α) (p1 : 0 ≤ σ 58 12 ∧ σ 58 12 ≤ 1900000000) : qm_T (qe L xs vb) (d + 5) 87 [.ref 16, .int (qz x1), .long (ql x2), .int (qz x3)] (qw σ α κ ρ) (fun r w' => ∃ σ' α', w' = qw σ' α' κ ρ ∧ qI σ' α' κ ρ ∧ qFr [(58, 11), (58, 12)] [53, 57, 59, 60, 61, 62, 63, 85] σ α σ' α' ∧ σ' 58 12 ≤ σ 58 12 + 1 ∧ σ' 58 12 ≥ σ 58 12 ∧ ∃ v : Int, r = some (.int (qz v)) ∧ ((-2147483648) ≤ v ∧ v ≤ 2147483647) ∧ qSt σ' α') := by
  refine qr_start (d := d + 4) qv_e87 (Nat.le_of_ble_eq_true rfl) ?_
  show qr_W (qe L xs vb) (d + 4) qx_e87 _ (0, [(0, .ref 16), (1, .int (qz x1)), (2, .long (ql x2)), (4, .int (qz x3))], [], _, 0, 0)
  have hF0 := qFr_rf [(58, 11), (58, 12)] [53, 57, 59, 60, 61, 62, 63, 85] σ α
  have hz58_12 : (-2147483648) ≤ σ 58 12 ∧ σ 58 12 ≤ 2147483647 := hI.1 58 12
  refine qr_aload_n 1 rfl rfl rfl ?_
  refine qr_get 4 rfl rfl rfl (by decide) rfl ?_
  refine qr_iload_n 5 rfl rfl rfl ?_
  refine qr_callN 8 rfl rfl rfl (sf_61_17 (d := d + 2) hI r1) ?_
  have hs3 : 0 ≤ σ 17 6 ∧ σ 17 6 ≤ 32 := hI.1 17 6
  rintro _ _ ⟨rfl, v1, rfl, hv1, hp2⟩
  show qr_W (qe L xs vb) (d + 4) qx_e87 _ (8, _, [.int (qz v1)], qw σ α κ ρ, 0, 0)
  refine qr_if_eq 30 11 rfl rfl rfl (qrg hv1 (by decide) (by decide)) (fun h4 => ?_) (fun h4 => ?_)
  · skip
    refine qr_ldc (-2000000000) 32 rfl (by decide) rfl ?_
    refine qr_retI rfl rfl (by decide) (by decide) ?_
    exact ⟨_, _, rfl, hI, hF0, (by have hw : σ 58 12 = (σ 58 12) := rfl; omega), (by have hw : σ 58 12 = (σ 58 12) := rfl; omega), (-2000000000), rfl, (by decide), p0⟩
  · skip
    refine qr_aload_n 12 rfl rfl rfl ?_
    refine qr_get 15 rfl rfl rfl (by decide) rfl ?_
    refine qr_lload_n 16 rfl rfl rfl ?_
    refine qr_callN 19 rfl rfl rfl (sf_88_17 (d := d + 3) hI r2) ?_
    rintro _ _ ⟨rfl, v5, rfl, hv5⟩
    show qr_W (qe L xs vb) (d + 4) qx_e87 _ (19, _, [.int (qz v5)], qw σ α κ ρ, 0, 0)
    refine qr_if_eq 30 22 rfl rfl rfl (qrg hv5 (by decide) (by decide)) (fun h6 => ?_) (fun h6 => ?_)
    · skip
      refine qr_ldc (-2000000000) 32 rfl (by decide) rfl ?_
      refine qr_retI rfl rfl (by decide) (by decide) ?_
      exact ⟨_, _, rfl, hI, hF0, (by have hw : σ 58 12 = (σ 58 12) := rfl; omega), (by have hw : σ 58 12 = (σ 58 12) := rfl; omega), (-2000000000), rfl, (by decide), p0⟩
    · skip
      refine qr_iload 24 rfl rfl rfl ?_
      refine qr_callN 27 rfl rfl rfl (sf_62 (d := d + 3) hI r3) ?_
      rintro _ _ ⟨rfl, v7, rfl, hv7, hp8⟩
      show qr_W (qe L xs vb) (d + 4) qx_e87 _ (27, _, [.int (qz v7)], qw σ α κ ρ, 0, 0)
      refine qr_if_ne 33 30 rfl rfl rfl (qrg hv7 (by decide) (by decide)) (fun h9 => ?_) (fun h9 => ?_)
      · skip
        refine qr_lload_n 34 rfl rfl rfl ?_
        refine qr_aload_n 35 rfl rfl rfl ?_
        refine qr_get 38 rfl rfl rfl (by decide) rfl ?_
        refine qr_get 41 rfl rfl rfl (by decide) rfl ?_
        have hs10 : (-9223372036854775808) ≤ σ 17 5 ∧ σ 17 5 ≤ 9223372036854775807 := hI.1 17 5
        refine qr_ldc2 (-1) 44 rfl (by decide) rfl ?_
        refine qr_lxor 45 rfl rfl ?_
        refine qy_canl (fun v11 hv11 => ?_)
        refine qr_land 46 rfl rfl ?_
        refine qy_canl (fun v12 hv12 => ?_)
        refine qr_lstore _ 48 rfl (by decide) rfl rfl ?_
        refine qr_lload 50 rfl rfl rfl ?_
        refine qr_iload_n 51 rfl rfl rfl ?_
        refine qr_bipush 53 rfl (by decide) rfl ?_
        refine qr_idiv 54 rfl (by omega) (by decide) rfl ?_
        refine qr_callN 57 rfl rfl rfl (sf_50 (d := d + 3) hI hv12 (by omega)) ?_
        rintro _ _ ⟨rfl, v13, rfl, hv13⟩
        show qr_W (qe L xs vb) (d + 4) qx_e87 _ (57, _, [.int (qz v13)], qw σ α κ ρ, 0, 0)
        refine qr_if_eq 72 60 rfl rfl rfl (qrg hv13 (by decide) (by decide)) (fun h14 => ?_) (fun h14 => ?_)
        · skip
          refine qr_ldc (-2000000000) 74 rfl (by decide) rfl ?_
          refine qr_retI rfl rfl (by decide) (by decide) ?_
          exact ⟨_, _, rfl, hI, hF0, (by have hw : σ 58 12 = (σ 58 12) := rfl; omega), (by have hw : σ 58 12 = (σ 58 12) := rfl; omega), (-2000000000), rfl, (by decide), p0⟩
        · skip
          refine qr_lload 62 rfl rfl rfl ?_
          refine qr_iload_n 63 rfl rfl rfl ?_
          refine qr_bipush 65 rfl (by decide) rfl ?_
          refine qr_irem 66 rfl (by omega) (by decide) rfl ?_
          refine qr_callN 69 rfl rfl rfl (sf_50 (d := d + 3) hI hv12 (by omega)) ?_
          rintro _ _ ⟨rfl, v15, rfl, hv15⟩
          show qr_W (qe L xs vb) (d + 4) qx_e87 _ (69, _, [.int (qz v15)], qw σ α κ ρ, 0, 0)
          refine qr_if_ne 75 72 rfl rfl rfl (qrg hv15 (by decide) (by decide)) (fun h16 => ?_) (fun h16 => ?_)
          · skip
            refine qr_aload_n 76 rfl rfl rfl ?_
            refine qr_get 79 rfl rfl rfl (by decide) rfl ?_
            refine qr_iload 81 rfl rfl rfl ?_
            have hs17 : (-2147483648) ≤ σ 58 12 ∧ σ 58 12 ≤ 2147483647 := hI.1 58 12
            refine qr_callN 84 rfl rfl rfl (sf_89_58s (d := d + 3) hI r3 p0 (by omega)) ?_
            rintro _ _ ⟨σ20, rfl, hI21, hG22, hw19, rfl, hx18⟩
            have hF23 : qFr [(58, 11), (58, 12)] [53, 57, 59, 60, 61, 62, 63, 85] σ α σ20 α := qFr_t hF0 hG22 (by decide) (by decide)
            have hs24 : (-2147483648) ≤ σ20 58 12 ∧ σ20 58 12 ≤ 2147483647 := hI21.1 58 12
            show qr_W (qe L xs vb) (d + 4) qx_e87 _ (84, _, [], qw σ20 α κ ρ, 0, 0)
            refine qr_aload_n 85 rfl rfl rfl ?_
            refine qr_get 88 rfl rfl rfl (by decide) rfl ?_
            refine qr_iconst 89 rfl rfl ?_
            refine qr_iload_n 90 rfl rfl rfl ?_
            refine qr_bipush 92 rfl (by decide) rfl ?_
            refine qr_idiv 93 rfl (by omega) (by decide) rfl ?_
            refine qr_iload_n 94 rfl rfl rfl ?_
            refine qr_bipush 96 rfl (by decide) rfl ?_
            refine qr_irem 97 rfl (by omega) (by decide) rfl ?_
            refine qr_iconst 98 rfl rfl ?_
            refine qr_lload 100 rfl rfl rfl ?_
            refine qr_callN 103 rfl rfl rfl (sf_90_58s (d := d + 0) hI21 (by decide) (by omega) (by omega) (by decide) hv12 (by omega) hx18) ?_
            rintro _ _ ⟨α27, rfl, hI28, hG29, v25, rfl, hv25, hx26⟩
            have hF30 : qFr [(58, 11), (58, 12)] [53, 57, 59, 60, 61, 62, 63, 85] σ α σ20 α27 := qFr_t hF23 hG29 (by decide) (by decide)
            show qr_W (qe L xs vb) (d + 4) qx_e87 _ (103, _, [.int (qz v25)], qw σ20 α27 κ ρ, 0, 0)
            refine qr_retI rfl rfl (by decide) (by decide) ?_
            exact ⟨_, _, rfl, hI28, hF30, (by have hw : σ20 58 12 = (σ20 58 12) := rfl; omega), (by have hw : σ20 58 12 = (σ20 58 12) := rfl; omega), v25, rfl, hv25, hx26⟩
          · skip
            refine qr_ldc (-2000000000) 74 rfl (by decide) rfl ?_
            refine qr_retI rfl rfl (by decide) (by decide) ?_
            exact ⟨_, _, rfl, hI, hF0, (by have hw : σ 58 12 = (σ 58 12) := rfl; omega), (by have hw : σ 58 12 = (σ 58 12) := rfl; omega), (-2000000000), rfl, (by decide), p0⟩
      · skip
        refine qr_ldc (-2000000000) 32 rfl (by decide) rfl ?_
        refine qr_retI rfl rfl (by decide) (by decide) ?_
        exact ⟨_, _, rfl, hI, hF0, (by have hw : σ 58 12 = (σ 58 12) := rfl; omega), (by have hw : σ 58 12 = (σ 58 12) := rfl; omega), (-2000000000), rfl, (by decide), p0⟩
end
