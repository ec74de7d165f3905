/-! strike -/
def qst (x n : Int) : Prop := 0 ≤ x ∧ qlu x / 2 ^ n.toNat = 0
theorem qlu_shr0 {v a b : Int} (ha : 0 ≤ a ∧ a ≤ 9223372036854775807) (hb : 0 ≤ b ∧ b ≤ 63) (h : ql v = ql (ql_shr a b)) : qlu v = qlu a / 2 ^ b.toNat := by
  obtain ⟨m, rfl⟩ : ∃ m : Nat, b = m := ⟨b.toNat, by omega⟩
  have hm : m < 64 := by omega
  have g0 : (ql v).toBitVec = (ql a).toBitVec.sshiftRight m := by
    rw [h]
    unfold ql_shr
    rw [← ql_of, Int64.toBitVec_shiftRight, qb63s ⟨m, hm⟩]
    show (ql a).toBitVec.sshiftRight (BitVec.ofNat 64 m).toNat = _
    rw [BitVec.toNat_ofNat, Nat.mod_eq_of_lt (by omega)]
  have hn : (ql a).toBitVec.msb = false := by
    have h1 := qlu_nn ha
    rw [BitVec.msb_eq_false_iff_two_mul_lt]
    show 2 * qlu a < 2 ^ 64
    omega
  unfold qlu
  rw [g0, BitVec.sshiftRight_eq_of_msb_false hn, BitVec.toNat_ushiftRight, Nat.shiftRight_eq_div_pow, Int.toNat_natCast]
theorem qlu_z {v : Int} (h : -9223372036854775808 ≤ v ∧ v ≤ 9223372036854775807) : v = 0 ↔ qlu v = 0 := by
  constructor
  · intro e
    rw [e]
    rfl
  · intro e
    have h1 := qlu_sm h (by omega)
    omega
theorem qst_1 {x n y : Int} (hy : -9223372036854775808 ≤ y ∧ y ≤ 9223372036854775807) (hx : 0 ≤ x) (e : qlu y = qlu x / 2 ^ n.toNat) (h : y = 0) : qst x n := ⟨hx, by rw [← e]; exact (qlu_z hy).mp h⟩
theorem qst_0 {x n y : Int} (hy : -9223372036854775808 ≤ y ∧ y ≤ 9223372036854775807) (e : qlu y = qlu x / 2 ^ n.toNat) (h : ¬ y = 0) : ¬ qst x n := fun z => h ((qlu_z hy).mpr (by rw [e]; exact z.2))
theorem qHq_c {σ α σ' α' : Nat → Nat → Int} {h : qHS} (es : ∀ a k, (a, k) ∈ [(17, 6), (27, 7), (34, 7), (76, 7), (76, 8)] → σ' a k = σ a k) (er : ∀ a, a ∈ [20, 33, 35, 38, 39, 40, 41, 77, 78, 79, 80] → α' a = α a) (hq : qHq σ α h) : qHq σ' α' h := by
  unfold qHq qRm qUn at hq ⊢
  rw [es 17 6 (by decide), es 27 7 (by decide), es 34 7 (by decide), es 76 7 (by decide), es 76 8 (by decide), er 20 (by decide), er 33 (by decide), er 35 (by decide), er 38 (by decide), er 39 (by decide), er 40 (by decide), er 41 (by decide), er 77 (by decide), er 78 (by decide), er 79 (by decide), er 80 (by decide)]
  exact hq
theorem qHq_fr {S : List (Nat × Nat)} {R : List Nat} {σ α σ' α' : Nat → Nat → Int} {h : qHS} (hG : qFr S R σ α σ' α') (hs : [(17, 6), (27, 7), (34, 7), (76, 7), (76, 8)].all (fun x => !S.contains x) = true) (hr : [20, 33, 35, 38, 39, 40, 41, 77, 78, 79, 80].all (fun x => !R.contains x) = true) (hq : qHq σ α h) : qHq σ' α' h := by
  refine qHq_c (fun a k hm => hG.1 a k (fun hn => ?_)) (fun a hm => hG.2 a (fun hn => ?_)) hq
  · have h1 := List.all_eq_true.mp hs (a, k) hm
    rw [List.contains_iff_mem.mpr hn] at h1
    exact absurd h1 (by decide)
  · have h1 := List.all_eq_true.mp hr a hm
    rw [List.contains_iff_mem.mpr hn] at h1
    exact absurd h1 (by decide)
/-- the peaces of a row set to broken, one after another -/
noncomputable def qkr (f : Nat → Int) : Nat → qHS → qHS
  | 0, h => h
  | n + 1, h => qbec (qkr f n h) (192 + f n) 6
theorem qtake_s : ∀ (l : List Int) (n : Nat) (h : n < l.length), l.take (n + 1) = l.take n ++ [l[n]]
  | [], n, h => absurd h (Nat.not_lt_zero n)
  | a :: l, 0, h => rfl
  | a :: l, n + 1, h => by
    have ih := qtake_s l n (by have : n + 1 < l.length + 1 := h; omega)
    show a :: l.take (n + 1) = a :: (l.take n ++ [l[n]'(by have : n + 1 < l.length + 1 := h; omega)])
    rw [ih]
theorem qkr_t {f : Nat → Int} {l : List Int} {h : qHS} (e : ∀ (i : Nat) (hi : i < l.length), f i = l[i]) : ∀ n : Nat, n ≤ l.length → qkr f n h = qkn (l.take n) h
  | 0, _ => rfl
  | n + 1, hn => by
    rw [qtake_s l n (by omega), qkn_app, ← qkr_t e n (by omega), ← e n (by omega)]
    rfl
theorem qkr_ls {f : Nat → Int} {n : Int} {l : List Int} {h : qHS} (hl : qLs f n l) : qkr f n.toNat h = qkn l h := by
  have h1 := qkr_t (h := h) hl.2 l.length (Nat.le_refl _)
  rw [List.take_length] at h1
  rw [← h1]
  have := hl.1
  congr 1
  omega
theorem qkr_s {σ α : Nat → Nat → Int} {f : Nat → Int} {i v : Int} {h : qHS} (hi : 0 ≤ i) (hv : v = f i.toNat) (hq : qHq σ α (qbec (qkr f i.toNat h) (qat 3 v) (qwd (qkr f i.toNat h).1 3 v 6))) : qHq σ α (qkr f (i + 1).toNat h) := by
  rw [show (i + 1).toNat = i.toNat + 1 by omega]
  have e1 : qat 3 v = 192 + f i.toNat := by rw [hv]; rfl
  have e2 : qwd (qkr f i.toNat h).1 3 v 6 = 6 := rfl
  rw [e1, e2] at hq
  exact hq
/-- those broken are peaces -/
theorem qland_mem {H : Int → Int → Int → Nat → Int} {B : Int → Nat → Int} {n : Nat} {s : qTS} {v : Int} (h : ∀ x ∈ s.2.2.2, 0 ≤ x ∧ x < (n : Int)) : ∀ x ∈ (qland H B n s v).2.2.2, 0 ≤ x ∧ x < (n : Int) := fun x hx => by
  rcases List.mem_append.mp hx with f | f
  · exact h x f
  · exact ((qBr_mem n x).mp f).1
theorem qtell_mem {H : Int → Int → Int → Nat → Int} {B : Int → Nat → Int} {n : Nat} {W : Int → Int → Int → Int → Int → Int → Int} {N : Int} : ∀ (k : Nat) (s : qTS), (∀ x ∈ s.2.2.2, 0 ≤ x ∧ x < (n : Int)) → ∀ x ∈ (qtell H B n W N k s).2.2.2, 0 ≤ x ∧ x < (n : Int)
  | 0, s, h => h
  | k + 1, s, h => by
    by_cases c : qnext W N s < 0
    · rw [show qtell H B n W N (k + 1) s = s from if_pos c]
      exact h
    · rw [show qtell H B n W N (k + 1) s = qtell H B n W N k (qland H B n s (qnext W N s)) from if_neg c]
      exact qtell_mem k _ (qland_mem h)
theorem qLs_mem {f : Nat → Int} {n m : Int} {l : List Int} (hl : qLs f n l) (h : ∀ x ∈ l, 0 ≤ x ∧ x < m) : ∀ i : Nat, (i : Int) < n → 0 ≤ f i ∧ f i < m := fun i hi => by
  have h1 := hl.1
  have h2 := hl.2 i (by omega)
  rw [h2]
  exact h _ (List.getElem_mem _)
/-- a telling as the class has it, with the hour told -/
noncomputable def qFINc (σ α : Nat → Nat → Int) (f0 f1 : (Nat → Int) → Int) (hr LV v : Int) : qTS := qtell (qHc (qw_s σ 58 11 hr) α) (qBc σ α) (σ 34 7 : Int).toNat (qWc (qw_s σ 58 11 hr) α f0 f1) (σ 17 6) 30 (qland (qHc (qw_s σ 58 11 hr) α) (qBc σ α) (σ 34 7 : Int).toNat ([], LV, 0, []) v)
theorem qFINc_o {σ σ1 α : Nat → Nat → Int} {f0 f1 : (Nat → Int) → Int} {hr LV v w : Int} (e11 : σ1 58 11 = hr) (e17 : σ1 17 6 = σ 17 6) (e26 : σ1 27 6 = σ 27 6) (e27 : σ1 27 7 = σ 27 7) (e34 : σ1 34 7 = σ 34 7) (hv : v = w) : qtell (qHc σ1 α) (qBc σ1 α) (σ1 34 7 : Int).toNat (qWc σ1 α f0 f1) (σ1 17 6) 30 (qland (qHc σ1 α) (qBc σ1 α) (σ1 34 7 : Int).toNat ([], LV, 0, []) v) = qFINc σ α f0 f1 hr LV w := by
  have x11 : qw_s σ 58 11 hr 58 11 = hr := rfl
  have h1 : qHc σ1 α = qHc (qw_s σ 58 11 hr) α := by
    unfold qHc
    rw [e11, x11]
  have h2 : qNVc σ1 α = qNVc (qw_s σ 58 11 hr) α := by
    unfold qNVc
    rw [e11, e17, e26, e27, e34]
    rfl
  have h3 : qWc σ1 α f0 f1 = qWc (qw_s σ 58 11 hr) α f0 f1 := by
    unfold qWc
    rw [h2]
  unfold qFINc
  rw [h1, h3, e17, e34, hv]
  rfl
theorem qTd_c {σ α σ' α' : Nat → Nat → Int} {r : Nat} {s : qTS} (e1 : α' (r + 1) = α (r + 1)) (e2 : α' (r + 2) = α (r + 2)) (e3 : σ' r 2 = σ r 2) (e4 : σ' r 3 = σ r 3) (e5 : σ' r 5 = σ r 5) (h : qTd σ α r s) : qTd σ' α' r s := by
  unfold qTd
  rw [e1, e2, e3, e4, e5]
  exact h
theorem qand_id (x d : Int) : ql_and (ql_and x d) d = ql_and x d := by
  refine qbit_ext (ql_and_r _ _) (ql_and_r _ _) (fun i _ _ => ?_)
  have a1 := qband_c (ql_and x d) d i
  have a2 := qband_c x d i
  omega
/-- a telling as the reference has it -/
noncomputable def qFINm (σ α : Nat → Nat → Int) (g0 g1 : (Nat → Int) → Int) (hr LV v : Int) : qTS := qtell (qHr σ α hr) (qBm σ α) (σ 86 24 : Int).toNat (qWr σ α g0 g1 hr) (σ 86 6) 30 (qland (qHr σ α hr) (qBm σ α) (σ 86 24 : Int).toNat ([], LV, 0, []) v)
def qTe (σ α : Nat → Nat → Int) (s : qTS) : Prop := ((s.1.length : Int) = σ 86 50 ∧ ∀ (i : Nat) (h : i < s.1.length), α 115 i = s.1[i] / 100 ∧ α 116 i = s.1[i] % 100) ∧ σ 86 51 = s.2.1
theorem qTe_of {σ α σ' : Nat → Nat → Int} {st : Int} {s : qTS} (e1 : σ' 86 50 = σ 86 50) (e2 : σ' 86 51 = σ 86 51) (h : qTr σ α st s) (h51 : σ 86 51 = s.2.1) : qTe σ' α s := by
  unfold qTe
  rw [e1, e2]
  exact ⟨⟨h.1.1, fun i hi => ⟨(h.1.2 i hi).1, (h.1.2 i hi).2.1⟩⟩, h51⟩

set_option maxHeartbeats 4000000 in
set_option maxRecDepth 20000 in
/-- OneRoof$Folk.isSet -/
theorem sf_88_17x {L : Nat} {xs : Nat → Int} {vb : Bool} {d : Nat} {σ α : Nat → Nat → Int} {κ : Nat → Option Nat} {ρ : Nat} {x1 : Int} (hI : qI σ α κ ρ) (r1 : (-9223372036854775808) ≤ x1 ∧ x1 ≤ 9223372036854775807) : qm_T (qe L xs vb) (d + 1) 88 [.ref 17, .long (ql x1)] (qw σ α κ ρ) (fun r w' => w' = qw σ α κ ρ ∧ ∃ v : Int, r = some (.int (qz v)) ∧ (0 ≤ v ∧ v ≤ 1) ∧ ((v = 1 ∧ qst x1 (σ 17 6)) ∨ (v = 0 ∧ ¬ (qst x1 (σ 17 6))))) := by
  refine qr_start (d := d + 0) qv_e88 (Nat.le_of_ble_eq_true rfl) ?_
  show qr_W (qe L xs vb) (d + 0) qx_e88 _ (0, [(0, .ref 17), (1, .long (ql x1))], [], _, 0, 0)
  have hz17_6 : 0 ≤ σ 17 6 ∧ σ 17 6 ≤ 32 := hI.1 17 6
  refine qr_lload_n 1 rfl rfl rfl ?_
  refine qr_lconst 2 rfl rfl ?_
  refine qy_vl 0 rfl ?_
  refine qr_lc_lt 21 6 rfl rfl rfl rfl r1 (by decide) (fun h1 => ?_) (fun h1 => ?_)
  · skip
    refine qr_iconst 22 rfl rfl ?_
    refine qr_retZ rfl rfl (Or.inl rfl) (by decide) (by decide) ?_
    exact ⟨rfl, 0, rfl, (by decide), (Or.inr ⟨rfl, fun z => absurd z.1 (by omega)⟩)⟩
  · skip
    refine qr_lload_n 7 rfl rfl rfl ?_
    refine qr_aload_n 8 rfl rfl rfl ?_
    refine qr_get 11 rfl rfl rfl (by decide) rfl ?_
    refine qr_lushr 12 rfl rfl ?_
    refine qy_canlE (fun v2 hv2 hev2 => ?_)
    refine qr_lconst 13 rfl rfl ?_
    refine qy_vl 0 rfl ?_
    refine qr_lc_ne 21 17 rfl rfl rfl rfl hv2 (by decide) (fun h3 => ?_) (fun h3 => ?_)
    · skip
      refine qr_iconst 22 rfl rfl ?_
      refine qr_retZ rfl rfl (Or.inl rfl) (by decide) (by decide) ?_
      exact ⟨rfl, 0, rfl, (by decide), (Or.inr ⟨rfl, qst_0 (by omega) (qlu_ushr (by omega) hev2) (by omega)⟩)⟩
    · skip
      refine qr_iconst 18 rfl rfl ?_
      refine qr_goto 22 rfl rfl ?_
      refine qr_retZ rfl rfl (Or.inr rfl) (by decide) (by decide) ?_
      exact ⟨rfl, 1, rfl, (by decide), (Or.inl ⟨rfl, qst_1 (by omega) (by omega) (qlu_ushr (by omega) hev2) (by omega)⟩)⟩

set_option maxHeartbeats 4000000 in
set_option maxRecDepth 20000 in
/-- OneRoofModel.isSet -/
theorem sf_225_86x {L : Nat} {xs : Nat → Int} {vb : Bool} {d : Nat} {σ α : Nat → Nat → Int} {κ : Nat → Option Nat} {ρ : Nat} {x1 : Int} (hI : qI σ α κ ρ) (r1 : (-9223372036854775808) ≤ x1 ∧ x1 ≤ 9223372036854775807) : qm_T (qe L xs vb) (d + 1) 225 [.ref 86, .long (ql x1)] (qw σ α κ ρ) (fun r w' => w' = qw σ α κ ρ ∧ ∃ v : Int, r = some (.int (qz v)) ∧ (0 ≤ v ∧ v ≤ 1) ∧ ((v = 1 ∧ qst x1 (σ 86 6)) ∨ (v = 0 ∧ ¬ (qst x1 (σ 86 6))))) := by
  refine qr_start (d := d + 0) qv_e225 (Nat.le_of_ble_eq_true rfl) ?_
  show qr_W (qe L xs vb) (d + 0) qx_e225 _ (0, [(0, .ref 86), (1, .long (ql x1))], [], _, 0, 0)
  have hz86_6 : 0 ≤ σ 86 6 ∧ σ 86 6 ≤ 32 := hI.1 86 6
  refine qr_lload_n 1 rfl rfl rfl ?_
  refine qr_lconst 2 rfl rfl ?_
  refine qy_vl 0 rfl ?_
  refine qr_lc_lt 21 6 rfl rfl rfl rfl r1 (by decide) (fun h1 => ?_) (fun h1 => ?_)
  · skip
    refine qr_iconst 22 rfl rfl ?_
    refine qr_retZ rfl rfl (Or.inl rfl) (by decide) (by decide) ?_
    exact ⟨rfl, 0, rfl, (by decide), (Or.inr ⟨rfl, fun z => absurd z.1 (by omega)⟩)⟩
  · skip
    refine qr_lload_n 7 rfl rfl rfl ?_
    refine qr_aload_n 8 rfl rfl rfl ?_
    refine qr_get 11 rfl rfl rfl (by decide) rfl ?_
    refine qr_lshr 12 rfl rfl ?_
    refine qy_canlE (fun v2 hv2 hev2 => ?_)
    refine qr_lconst 13 rfl rfl ?_
    refine qy_vl 0 rfl ?_
    refine qr_lc_ne 21 17 rfl rfl rfl rfl hv2 (by decide) (fun h3 => ?_) (fun h3 => ?_)
    · skip
      refine qr_iconst 22 rfl rfl ?_
      refine qr_retZ rfl rfl (Or.inl rfl) (by decide) (by decide) ?_
      exact ⟨rfl, 0, rfl, (by decide), (Or.inr ⟨rfl, qst_0 (by omega) (qlu_shr0 (by omega) (by omega) hev2) (by omega)⟩)⟩
    · skip
      refine qr_iconst 18 rfl rfl ?_
      refine qr_goto 22 rfl rfl ?_
      refine qr_retZ rfl rfl (Or.inr rfl) (by decide) (by decide) ?_
      exact ⟨rfl, 1, rfl, (by decide), (Or.inl ⟨rfl, qst_1 (by omega) (by omega) (qlu_shr0 (by omega) (by omega) hev2) (by omega)⟩)⟩

set_option maxHeartbeats 4000000 in
set_option maxRecDepth 20000 in
/-- OneRoof$Moment.open -/
theorem sf_89_58x {L : Nat} {xs : Nat → Int} {vb : Bool} {d : Nat} {σ α : Nat → Nat → Int} {κ : Nat → Option Nat} {ρ : Nat} {x1 : Int} (hI : qI σ α κ ρ) (r1 : (-2147483648) ≤ x1 ∧ x1 ≤ 2147483647) (p0 : 0 ≤ σ 58 12 ∧ σ 58 12 ≤ 2000000000) : qm_T (qe L xs vb) (d + 1) 89 [.ref 58, .int (qz x1)] (qw σ α κ ρ) (fun r w' => ∃ σ', w' = qw σ' α κ ρ ∧ qI σ' α κ ρ ∧ qFr [(58, 11), (58, 12)] [] σ α σ' α ∧ σ' 58 11 = x1 ∧ σ' 58 12 = σ 58 12 + 1 ∧ r = none) := by
  refine qr_start (d := d + 0) qv_e89 (Nat.le_of_ble_eq_true rfl) ?_
  show qr_W (qe L xs vb) (d + 0) qx_e89 _ (0, [(0, .ref 58), (1, .int (qz x1))], [], _, 0, 0)
  have hF0 := qFr_rf [(58, 11), (58, 12)] [] σ α
  have hz58_12 : (-2147483648) ≤ σ 58 12 ∧ σ 58 12 ≤ 2147483647 := hI.1 58 12
  refine qr_aload_n 1 rfl rfl rfl ?_
  refine qr_iload_n 2 rfl rfl rfl ?_
  refine qr_put 5 rfl (by decide) rfl (Nat.le_of_ble_eq_true rfl) (Nat.le_of_ble_eq_true rfl) (Or.inl rfl) (qr_fitI rfl _) rfl ?_
  refine qy_wS (qw_s σ 58 11 x1) rfl (fun σ1 e2 => ?_)
  have hI3 : qI σ1 α κ ρ := by rw [e2]; exact qI_s hI 58 11 rfl (show (-2147483648) ≤ x1 ∧ x1 ≤ 2147483647 by omega)
  have hF4 : qFr [(58, 11), (58, 12)] [] σ α σ1 α := by rw [e2]; exact qFr_s hF0 58 11 _ (by decide)
  refine qr_aload_n 6 rfl rfl rfl ?_
  refine qr_dup 7 rfl rfl rfl ?_
  refine qr_get 10 rfl rfl rfl (by decide) rfl ?_
  refine qy_v (σ 58 12) ((congrFun (congrFun e2 58) 12).trans rfl) ?_
  refine qr_iconst 11 rfl rfl ?_
  refine qr_iadd 12 rfl rfl ?_
  refine qr_put 15 rfl (by decide) rfl (Nat.le_of_ble_eq_true rfl) (Nat.le_of_ble_eq_true rfl) (Or.inl rfl) (qr_fitI rfl _) rfl ?_
  refine qy_wS (qw_s σ1 58 12 ((σ 58 12) + 1)) rfl (fun σ5 e6 => ?_)
  have hI7 : qI σ5 α κ ρ := by rw [e6]; exact qI_s hI3 58 12 rfl (show (-2147483648) ≤ ((σ 58 12) + 1) ∧ ((σ 58 12) + 1) ≤ 2147483647 by omega)
  have hF8 : qFr [(58, 11), (58, 12)] [] σ α σ5 α := by rw [e6]; exact qFr_s hF4 58 12 _ (by decide)
  refine qr_retV rfl rfl (by decide) (by decide) ?_
  exact ⟨_, rfl, hI7, hF8, (by have hw : σ5 58 11 = x1 := (congrFun (congrFun e6 58) 11).trans ((congrFun (congrFun e2 58) 11).trans rfl); omega), (by have hw : σ5 58 12 = ((σ 58 12) + 1) := (congrFun (congrFun e6 58) 12).trans rfl; omega), rfl⟩

set_option maxHeartbeats 4000000 in
set_option maxRecDepth 20000 in
/-- OneRoof.strike -/
theorem sf_133_16x {L : Nat} {xs : Nat → Int} {vb : Bool} {d : Nat} {σ α : Nat → Nat → Int} {κ : Nat → Option Nat} {ρ : Nat} {x1 : Int} {x2 : Int} {x3 : Int} {x4 : Int} {f0 f1 : (Nat → Int) → Int} {h : qHS} (hI : qI σ α κ ρ) (r1 : (-2147483648) ≤ x1 ∧ x1 ≤ 2147483647) (r2 : (-9223372036854775808) ≤ x2 ∧ x2 ≤ 9223372036854775807) (r3 : (-2147483648) ≤ x3 ∧ x3 ≤ 2147483647) (r4 : (-2147483648) ≤ x4 ∧ x4 ≤ 2147483647) (p0 : qPW σ α κ (0 : Int).toNat f0) (p1 : qPW σ α κ (1 : Int).toNat f1) (p2 : qZp σ α) (p3 : σ 58 10 = 0) (p4 : ∀ c : Nat, c < 496 → α 61 c ≤ σ 58 12) (p5 : ∀ c : Nat, c < 496 → α 63 c ≤ σ 58 12) (p6 : 0 ≤ σ 58 12 ∧ σ 58 12 ≤ 2000000000) (p7 : qHq σ α h) : qm_T (qe L xs vb) (d + 7) 133 [.ref 16, .int (qz x1), .long (ql x2), .int (qz x3), .int (qz x4)] (qw σ α κ ρ) (fun r w' => ∃ σ' α', w' = qw σ' α' κ ρ ∧ qI σ' α' κ ρ ∧ qFr [(17, 5), (58, 10), (58, 11), (58, 12), (70, 2), (70, 3), (70, 5), (70, 6), (76, 7), (76, 8)] [20, 33, 35, 41, 53, 57, 59, 60, 61, 62, 63, 71, 72, 77, 78, 79, 80, 85] σ α σ' α' ∧ ∃ v : Int, r = some (.int (qz v)) ∧ ((-2147483648) ≤ v ∧ v ≤ 2147483647) ∧ ((v = -1 ∧ ¬ (0 ≤ x1 ∧ x1 / 100 < σ 17 6 ∧ x1 % 100 < σ 17 6 ∧ ¬ x1 / 100 = x1 % 100 ∧ qst x2 (σ 17 6) ∧ 0 ≤ x3 ∧ x3 ≤ 2399 ∧ 0 ≤ x4 ∧ x4 ≤ 1 ∧ qbit (ql_and x2 (ql_xor (σ 17 5) (-1))) (x1 / 100) = 1 ∧ qbit (ql_and x2 (ql_xor (σ 17 5) (-1))) (x1 % 100) = 1) ∧ qHq σ' α' h ∧ σ' 70 2 = σ 70 2 ∧ σ' 70 3 = σ 70 3 ∧ α' 71 = α 71 ∧ σ' 17 5 = σ 17 5) ∨ ((0 ≤ x1 ∧ x1 / 100 < σ 17 6 ∧ x1 % 100 < σ 17 6 ∧ ¬ x1 / 100 = x1 % 100 ∧ qst x2 (σ 17 6) ∧ 0 ≤ x3 ∧ x3 ≤ 2399 ∧ 0 ≤ x4 ∧ x4 ≤ 1 ∧ qbit (ql_and x2 (ql_xor (σ 17 5) (-1))) (x1 / 100) = 1 ∧ qbit (ql_and x2 (ql_xor (σ 17 5) (-1))) (x1 % 100) = 1) ∧ v = ((qFINc σ α f0 f1 x3 (ql_and x2 (ql_xor (σ 17 5) (-1))) x1).1.length : Int) ∧ qTd σ' α' 70 (qFINc σ α f0 f1 x3 (ql_and x2 (ql_xor (σ 17 5) (-1))) x1) ∧ ((x4 = 0 ∧ σ' 17 5 = σ 17 5 ∧ qHq σ' α' h) ∨ (x4 = 1 ∧ σ' 17 5 = ql_or (σ 17 5) (ql_and (ql_and x2 (ql_xor (σ 17 5) (-1))) (ql_xor (qFINc σ α f0 f1 x3 (ql_and x2 (ql_xor (σ 17 5) (-1))) x1).2.1 (-1))) ∧ qHq σ' α' (qkn (qFINc σ α f0 f1 x3 (ql_and x2 (ql_xor (σ 17 5) (-1))) x1).2.2.2 h))))) ∧ (∀ c : Nat, c < 496 → α' 61 c ≤ σ' 58 12) ∧ (∀ c : Nat, c < 496 → α' 63 c ≤ σ' 58 12) ∧ (0 ≤ σ' 58 12 ∧ σ' 58 12 ≤ σ 58 12 + 1) ∧ σ' 58 10 = 0) := by
  refine qr_start (d := d + 6) qv_e133 (Nat.le_of_ble_eq_true rfl) ?_
  show qr_W (qe L xs vb) (d + 6) qx_e133 _ (0, [(0, .ref 16), (1, .int (qz x1)), (2, .long (ql x2)), (4, .int (qz x3)), (5, .int (qz x4))], [], _, 0, 0)
  have hF0 := qFr_rf [(17, 5), (58, 10), (58, 11), (58, 12), (70, 2), (70, 3), (70, 5), (70, 6), (76, 7), (76, 8)] [20, 33, 35, 41, 53, 57, 59, 60, 61, 62, 63, 71, 72, 77, 78, 79, 80, 85] σ α
  have hz58_10 : (-9223372036854775808) ≤ σ 58 10 ∧ σ 58 10 ≤ 9223372036854775807 := hI.1 58 10
  have hz58_12 : (-2147483648) ≤ σ 58 12 ∧ σ 58 12 ≤ 2147483647 := hI.1 58 12
  have hz17_5 : (-9223372036854775808) ≤ σ 17 5 ∧ σ 17 5 ≤ 9223372036854775807 := hI.1 17 5
  have hz17_6 : 0 ≤ σ 17 6 ∧ σ 17 6 ≤ 32 := hI.1 17 6
  have hz27_7 : 0 ≤ σ 27 7 ∧ σ 27 7 ≤ 40 := hI.1 27 7
  have hz34_7 : 0 ≤ σ 34 7 ∧ σ 34 7 ≤ 60 := hI.1 34 7
  have hz58_11 : (-2147483648) ≤ σ 58 11 ∧ σ 58 11 ≤ 2147483647 := hI.1 58 11
  have hz70_2 : 0 ≤ σ 70 2 ∧ σ 70 2 ≤ 31 := hI.1 70 2
  have hz70_3 : (-9223372036854775808) ≤ σ 70 3 ∧ σ 70 3 ≤ 9223372036854775807 := hI.1 70 3
  have hz70_5 : 0 ≤ σ 70 5 ∧ σ 70 5 ≤ 60 := hI.1 70 5
  have hz76_7 : 0 ≤ σ 76 7 ∧ σ 76 7 ≤ 40 := hI.1 76 7
  have hz76_8 : 0 ≤ σ 76 8 ∧ σ 76 8 ≤ 40 := hI.1 76 8
  refine qr_aload_n 1 rfl rfl rfl ?_
  refine qr_get 4 rfl rfl rfl (by decide) rfl ?_
  refine qr_iload_n 5 rfl rfl rfl ?_
  refine qr_callN 8 rfl rfl rfl (sf_61_17 (d := d + 4) hI r1) ?_
  have hs3 : 0 ≤ σ 17 6 ∧ σ 17 6 ≤ 32 := hI.1 17 6
  rintro _ _ ⟨rfl, v1, rfl, hv1, hp2⟩
  show qr_W (qe L xs vb) (d + 6) qx_e133 _ (8, _, [.int (qz v1)], qw σ α κ ρ, 0, 0)
  refine qr_if_eq 38 11 rfl rfl rfl (qrg hv1 (by decide) (by decide)) (fun h4 => ?_) (fun h4 => ?_)
  · skip
    refine qr_iconst 39 rfl rfl ?_
    refine qr_retI rfl rfl (by decide) (by decide) ?_
    exact ⟨_, _, rfl, hI, hF0, (-1), rfl, (by decide), (Or.inl ⟨rfl, (fun hc => by rcases hc with ⟨c1, c2, c3, c4, c5, c6, c7, c8, c9, c10, c11⟩; first | omega | (omega)), p7, rfl, rfl, rfl, rfl⟩), p4, p5, (by omega), p3⟩
  · skip
    refine qr_aload_n 12 rfl rfl rfl ?_
    refine qr_get 15 rfl rfl rfl (by decide) rfl ?_
    refine qr_lload_n 16 rfl rfl rfl ?_
    refine qr_callN 19 rfl rfl rfl (sf_88_17x (d := d + 5) hI r2) ?_
    have hs7 : 0 ≤ σ 17 6 ∧ σ 17 6 ≤ 32 := hI.1 17 6
    rintro _ _ ⟨rfl, v5, rfl, hv5, hp6⟩
    show qr_W (qe L xs vb) (d + 6) qx_e133 _ (19, _, [.int (qz v5)], qw σ α κ ρ, 0, 0)
    refine qr_if_eq 38 22 rfl rfl rfl (qrg hv5 (by decide) (by decide)) (fun h8 => ?_) (fun h8 => ?_)
    · skip
      refine qr_iconst 39 rfl rfl ?_
      refine qr_retI rfl rfl (by decide) (by decide) ?_
      exact ⟨_, _, rfl, hI, hF0, (-1), rfl, (by decide), (Or.inl ⟨rfl, (fun hc => by rcases hc with ⟨c1, c2, c3, c4, c5, c6, c7, c8, c9, c10, c11⟩; first | omega | (have hz := hp6; rcases hz with hz | hz; (omega); (exact hz.2 c5))), p7, rfl, rfl, rfl, rfl⟩), p4, p5, (by omega), p3⟩
    · skip
      refine qr_iload 24 rfl rfl rfl ?_
      refine qr_callN 27 rfl rfl rfl (sf_62 (d := d + 5) hI r3) ?_
      rintro _ _ ⟨rfl, v9, rfl, hv9, hp10⟩
      show qr_W (qe L xs vb) (d + 6) qx_e133 _ (27, _, [.int (qz v9)], qw σ α κ ρ, 0, 0)
      refine qr_if_eq 38 30 rfl rfl rfl (qrg hv9 (by decide) (by decide)) (fun h11 => ?_) (fun h11 => ?_)
      · skip
        refine qr_iconst 39 rfl rfl ?_
        refine qr_retI rfl rfl (by decide) (by decide) ?_
        exact ⟨_, _, rfl, hI, hF0, (-1), rfl, (by decide), (Or.inl ⟨rfl, (fun hc => by rcases hc with ⟨c1, c2, c3, c4, c5, c6, c7, c8, c9, c10, c11⟩; first | omega | (have hz := hp6; rcases hz with hz | hz; (omega); (exact hz.2 c5))), p7, rfl, rfl, rfl, rfl⟩), p4, p5, (by omega), p3⟩
      · skip
        refine qr_iload 32 rfl rfl rfl ?_
        refine qr_callN 35 rfl rfl rfl (sf_41 (d := d + 5) hI r4) ?_
        rintro _ _ ⟨rfl, v12, rfl, hv12, hp13⟩
        show qr_W (qe L xs vb) (d + 6) qx_e133 _ (35, _, [.int (qz v12)], qw σ α κ ρ, 0, 0)
        refine qr_if_ne 40 38 rfl rfl rfl (qrg hv12 (by decide) (by decide)) (fun h14 => ?_) (fun h14 => ?_)
        · skip
          refine qr_lload_n 41 rfl rfl rfl ?_
          refine qr_aload_n 42 rfl rfl rfl ?_
          refine qr_get 45 rfl rfl rfl (by decide) rfl ?_
          refine qr_get 48 rfl rfl rfl (by decide) rfl ?_
          refine qr_ldc2 (-1) 51 rfl (by decide) rfl ?_
          refine qr_lxor 52 rfl rfl ?_
          refine qy_canlE (fun v15 hv15 hev15 => ?_)
          refine qr_land 53 rfl rfl ?_
          refine qy_canlE (fun v16 hv16 hev16 => ?_)
          refine qr_lstore _ 55 rfl (by decide) rfl rfl ?_
          have hv17 : v16 = ql_and x2 (ql_xor (σ 17 5) (-1)) := by rw [ql_val hev16 (by omega) (ql_and_r _ _), ql_val hev15 (by omega) (ql_xor_r _ _)]
          refine qr_lload 57 rfl rfl rfl ?_
          refine qr_iload_n 58 rfl rfl rfl ?_
          refine qr_bipush 60 rfl (by decide) rfl ?_
          refine qr_idiv 61 rfl (by omega) (by decide) rfl ?_
          refine qr_callN 64 rfl rfl rfl (sf_50b (d := d + 5) hI hv16 (by omega)) ?_
          rintro _ _ ⟨rfl, v18, rfl, hv18, hp19⟩
          show qr_W (qe L xs vb) (d + 6) qx_e133 _ (64, _, [.int (qz v18)], qw σ α κ ρ, 0, 0)
          refine qr_if_eq 79 67 rfl rfl rfl (qrg hv18 (by decide) (by decide)) (fun h20 => ?_) (fun h20 => ?_)
          · skip
            refine qr_iconst 80 rfl rfl ?_
            refine qr_retI rfl rfl (by decide) (by decide) ?_
            exact ⟨_, _, rfl, hI, hF0, (-1), rfl, (by decide), (Or.inl ⟨rfl, (fun hc => by rcases hc with ⟨c1, c2, c3, c4, c5, c6, c7, c8, c9, c10, c11⟩; rw [← hv17] at c10 c11; first | omega | (have hz := hp6; rcases hz with hz | hz; (omega); (exact hz.2 c5))), p7, rfl, rfl, rfl, rfl⟩), p4, p5, (by omega), p3⟩
          · skip
            refine qr_lload 69 rfl rfl rfl ?_
            refine qr_iload_n 70 rfl rfl rfl ?_
            refine qr_bipush 72 rfl (by decide) rfl ?_
            refine qr_irem 73 rfl (by omega) (by decide) rfl ?_
            refine qr_callN 76 rfl rfl rfl (sf_50b (d := d + 5) hI hv16 (by omega)) ?_
            rintro _ _ ⟨rfl, v21, rfl, hv21, hp22⟩
            show qr_W (qe L xs vb) (d + 6) qx_e133 _ (76, _, [.int (qz v21)], qw σ α κ ρ, 0, 0)
            refine qr_if_ne 81 79 rfl rfl rfl (qrg hv21 (by decide) (by decide)) (fun h23 => ?_) (fun h23 => ?_)
            · skip
              refine qr_aload_n 82 rfl rfl rfl ?_
              refine qr_get 85 rfl rfl rfl (by decide) rfl ?_
              refine qr_iload 87 rfl rfl rfl ?_
              have hs24 : (-2147483648) ≤ σ 58 12 ∧ σ 58 12 ≤ 2147483647 := hI.1 58 12
              refine qr_callN 90 rfl rfl rfl (sf_89_58x (d := d + 5) hI r3 (by omega)) ?_
              rintro _ _ ⟨σ27, rfl, hI28, hG29, hw25, hw26, rfl⟩
              have hF30 : qFr [(17, 5), (58, 10), (58, 11), (58, 12), (70, 2), (70, 3), (70, 5), (70, 6), (76, 7), (76, 8)] [20, 33, 35, 41, 53, 57, 59, 60, 61, 62, 63, 71, 72, 77, 78, 79, 80, 85] σ α σ27 α := qFr_t hF0 hG29 (by decide) (by decide)
              have hs31 : (-2147483648) ≤ σ27 58 11 ∧ σ27 58 11 ≤ 2147483647 := hI28.1 58 11
              have hs32 : (-2147483648) ≤ σ27 58 12 ∧ σ27 58 12 ≤ 2147483647 := hI28.1 58 12
              show qr_W (qe L xs vb) (d + 6) qx_e133 _ (90, _, [], qw σ27 α κ ρ, 0, 0)
              have hH33 := qHq_fr (h := h) hG29 (by decide) (by decide) p7
              refine qr_aload_n 91 rfl rfl rfl ?_
              refine qr_get 94 rfl rfl rfl (by decide) rfl ?_
              refine qr_iload_n 95 rfl rfl rfl ?_
              refine qr_bipush 97 rfl (by decide) rfl ?_
              refine qr_idiv 98 rfl (by omega) (by decide) rfl ?_
              refine qr_iload_n 99 rfl rfl rfl ?_
              refine qr_bipush 101 rfl (by decide) rfl ?_
              refine qr_irem 102 rfl (by omega) (by decide) rfl ?_
              refine qr_lload 104 rfl rfl rfl ?_
              have hs34 : (-9223372036854775808) ≤ σ27 27 6 ∧ σ27 27 6 ≤ 9223372036854775807 := hI28.1 27 6
              have hs35 : 0 ≤ σ27 27 7 ∧ σ27 27 7 ≤ 40 := hI28.1 27 7
              have hs36 : σ27 27 7 = (σ 27 7) := (hG29.1 27 7 (by decide)).trans rfl
              have hs37 : 0 ≤ σ27 34 7 ∧ σ27 34 7 ≤ 60 := hI28.1 34 7
              have hs38 : σ27 34 7 = (σ 34 7) := (hG29.1 34 7 (by decide)).trans rfl
              have hs39 : (-9223372036854775808) ≤ σ27 58 10 ∧ σ27 58 10 ≤ 9223372036854775807 := hI28.1 58 10
              have hs40 : σ27 58 10 = (σ 58 10) := (hG29.1 58 10 (by decide)).trans rfl
              have hs41 : (-2147483648) ≤ σ27 58 11 ∧ σ27 58 11 ≤ 2147483647 := hI28.1 58 11
              have hs42 : (-2147483648) ≤ σ27 58 12 ∧ σ27 58 12 ≤ 2147483647 := hI28.1 58 12
              refine qr_callN 107 rfl rfl rfl (sf_134_70x (d := d + 0) hI28 (by omega) (by omega) hv16 (by omega) (qPW_fr hF30 (by decide) (by decide) p0) (qPW_fr hF30 (by decide) (by decide) p1) (qCaN_v p4 hw26) (qCaN_v p5 hw26) (qZp_fr hF30 (by decide) (by decide) p2) ((hG29.1 58 10 (by decide)).trans p3)) ?_
              rintro _ _ ⟨σ47, α48, rfl, hI49, hG50, hw46, rfl, hx43, hx44, hx45⟩
              have hF51 : qFr [(17, 5), (58, 10), (58, 11), (58, 12), (70, 2), (70, 3), (70, 5), (70, 6), (76, 7), (76, 8)] [20, 33, 35, 41, 53, 57, 59, 60, 61, 62, 63, 71, 72, 77, 78, 79, 80, 85] σ α σ47 α48 := qFr_t hF30 hG50 (by decide) (by decide)
              have hs52 : (-9223372036854775808) ≤ σ47 58 10 ∧ σ47 58 10 ≤ 9223372036854775807 := hI49.1 58 10
              show qr_W (qe L xs vb) (d + 6) qx_e133 _ (107, _, [], qw σ47 α48 κ ρ, 0, 0)
              rw [qFINc_o (σ := σ) (hr := x3) (w := x1) hw25 (hF30.1 17 6 (by decide)) (hF30.1 27 6 (by decide)) (hF30.1 27 7 (by decide)) (hF30.1 34 7 (by decide)) (by omega), hv17] at hx43
              have hH53 := qHq_fr (h := h) hG50 (by decide) (by decide) hH33
              have hm54 := qLs_mem hx43.2.2 (qtell_mem 30 _ (qland_mem (fun x hx => absurd hx (List.not_mem_nil))))
              have hs55 : 0 ≤ σ47 70 2 ∧ σ47 70 2 ≤ 31 := hI49.1 70 2
              have hs56 : (-9223372036854775808) ≤ σ47 70 3 ∧ σ47 70 3 ≤ 9223372036854775807 := hI49.1 70 3
              have hs57 : 0 ≤ σ47 70 5 ∧ σ47 70 5 ≤ 60 := hI49.1 70 5
              have hs58 : σ47 58 12 = σ 58 12 + 1 := (hG50.1 58 12 (by decide)).trans hw26
              as_aux_lemma =>
                refine qr_iload 109 rfl rfl rfl ?_
                refine qr_iconst 110 rfl rfl ?_
                refine qr_icmp_ne 181 113 rfl rfl rfl r4 (by decide) (fun h59 => ?_) (fun h59 => ?_)
                · skip
                  refine qr_aload_n 182 rfl rfl rfl ?_
                  refine qr_get 185 rfl rfl rfl (by decide) rfl ?_
                  refine qr_get 188 rfl rfl rfl (by decide) rfl ?_
                  refine qr_retI rfl rfl (by decide) (by decide) ?_
                  exact ⟨_, _, rfl, hI49, hF51, (σ47 70 2), rfl, (by omega), (Or.inr ⟨⟨by omega, by omega, by omega, by omega, (by have hz := hp6; rcases hz with hz | hz; (exact hz.2); (exact absurd hz.1 (by omega))), by omega, by omega, by omega, by omega, by rw [← hv17]; omega, by rw [← hv17]; omega⟩, (by have hl := hx43.1.1; omega), (qTd_c (r := 70) (rfl) (rfl) (rfl) (rfl) (rfl) hx43), (Or.inl ⟨by omega, (hG50.1 17 5 (by decide)).trans ((hG29.1 17 5 (by decide)).trans rfl), hH53⟩)⟩), (fun c hc => by have hz := hx44.1 c hc; rw [← show α48 61 = (α48 61) from rfl] at hz; have hw : σ47 58 12 = (σ47 58 12) := rfl; have hw2 := hw26; omega), (fun c hc => by have hz := hx45.1 c hc; rw [← show α48 63 = (α48 63) from rfl] at hz; have hw : σ47 58 12 = (σ47 58 12) := rfl; have hw2 := hw26; omega), (by have hw : σ47 58 12 = (σ47 58 12) := rfl; have hw2 := hw26; omega), ((rfl).trans hw46)⟩
                · skip
                  refine qr_aload_n 114 rfl rfl rfl ?_
                  refine qr_get 117 rfl rfl rfl (by decide) rfl ?_
                  refine qr_dup 118 rfl rfl rfl ?_
                  refine qr_get 121 rfl rfl rfl (by decide) rfl ?_
                  refine qy_vl (σ 17 5) ((hG50.1 17 5 (by decide)).trans ((hG29.1 17 5 (by decide)).trans rfl)) ?_
                  refine qr_lload 123 rfl rfl rfl ?_
                  refine qr_aload_n 124 rfl rfl rfl ?_
                  refine qr_get 127 rfl rfl rfl (by decide) rfl ?_
                  refine qr_get 130 rfl rfl rfl (by decide) rfl ?_
                  refine qr_ldc2 (-1) 133 rfl (by decide) rfl ?_
                  refine qr_lxor 134 rfl rfl ?_
                  refine qy_canlE (fun v60 hv60 hev60 => ?_)
                  refine qr_land 135 rfl rfl ?_
                  refine qy_canlE (fun v61 hv61 hev61 => ?_)
                  refine qr_lor 136 rfl rfl ?_
                  refine qy_canlE (fun v62 hv62 hev62 => ?_)
                  refine qr_put 139 rfl (by decide) rfl (Nat.le_of_ble_eq_true rfl) (Nat.le_of_ble_eq_true rfl) (Or.inl rfl) (qr_fitL rfl _) rfl ?_
                  refine qy_wS (qw_s σ47 17 5 v62) rfl (fun σ63 e64 => ?_)
                  have hI65 : qI σ63 α48 κ ρ := by rw [e64]; exact qI_s hI49 17 5 rfl (show (-9223372036854775808) ≤ v62 ∧ v62 ≤ 9223372036854775807 by omega)
                  have hF66 : qFr [(17, 5), (58, 10), (58, 11), (58, 12), (70, 2), (70, 3), (70, 5), (70, 6), (76, 7), (76, 8)] [20, 33, 35, 41, 53, 57, 59, 60, 61, 62, 63, 71, 72, 77, 78, 79, 80, 85] σ α σ63 α48 := by rw [e64]; exact qFr_s hF51 17 5 _ (by decide)
                  have hH67 : qHq σ63 α48 h := qHq_c (fun a k hm => by rw [e64]; exact qw_s_ne (fun hz => by rw [hz.1, hz.2] at hm; revert hm; decide)) (fun _ _ => rfl) hH53
                  refine qr_iconst 140 rfl rfl ?_
                  refine qr_istore _ 142 rfl (by decide) rfl rfl ?_
                  have hL908 : ∀ (n : Nat) (ls : qm_L) (u886 : Int) (σ887 α888 : Nat → Nat → Int), 60 - u886 < (n : Int) → qm_get ls 0 = some (.ref 16) → qm_get ls 8 = some (.int (qz u886)) → (0 ≤ u886 ∧ u886 ≤ 60) → qI σ887 α888 κ ρ → qFr [(17, 5), (58, 10), (58, 11), (58, 12), (70, 2), (70, 3), (70, 5), (70, 6), (76, 7), (76, 8)] [20, 33, 35, 41, 53, 57, 59, 60, 61, 62, 63, 71, 72, 77, 78, 79, 80, 85] σ α σ887 α888 → σ887 17 5 = v62 → σ887 17 6 = (σ 17 6) → σ887 27 7 = (σ 27 7) → σ887 34 7 = (σ 34 7) → σ887 58 10 = (σ47 58 10) → σ887 58 11 = (σ27 58 11) → σ887 58 12 = (σ47 58 12) → σ887 70 2 = (σ47 70 2) → σ887 70 3 = (σ47 70 3) → σ887 70 5 = (σ47 70 5) → α888 61 = (α48 61) → α888 63 = (α48 63) → α888 71 = (α48 71) → α888 72 = (α48 72) → qHq σ887 α888 (qkr (α48 72) (u886 : Int).toNat h) → u886 ≤ σ47 70 5 → qr_W (qe L xs vb) (d + 6) qx_e133 (fun r w' => ∃ σ' α', w' = qw σ' α' κ ρ ∧ qI σ' α' κ ρ ∧ qFr [(17, 5), (58, 10), (58, 11), (58, 12), (70, 2), (70, 3), (70, 5), (70, 6), (76, 7), (76, 8)] [20, 33, 35, 41, 53, 57, 59, 60, 61, 62, 63, 71, 72, 77, 78, 79, 80, 85] σ α σ' α' ∧ ∃ v : Int, r = some (.int (qz v)) ∧ ((-2147483648) ≤ v ∧ v ≤ 2147483647) ∧ ((v = -1 ∧ ¬ (0 ≤ x1 ∧ x1 / 100 < σ 17 6 ∧ x1 % 100 < σ 17 6 ∧ ¬ x1 / 100 = x1 % 100 ∧ qst x2 (σ 17 6) ∧ 0 ≤ x3 ∧ x3 ≤ 2399 ∧ 0 ≤ x4 ∧ x4 ≤ 1 ∧ qbit (ql_and x2 (ql_xor (σ 17 5) (-1))) (x1 / 100) = 1 ∧ qbit (ql_and x2 (ql_xor (σ 17 5) (-1))) (x1 % 100) = 1) ∧ qHq σ' α' h ∧ σ' 70 2 = σ 70 2 ∧ σ' 70 3 = σ 70 3 ∧ α' 71 = α 71 ∧ σ' 17 5 = σ 17 5) ∨ ((0 ≤ x1 ∧ x1 / 100 < σ 17 6 ∧ x1 % 100 < σ 17 6 ∧ ¬ x1 / 100 = x1 % 100 ∧ qst x2 (σ 17 6) ∧ 0 ≤ x3 ∧ x3 ≤ 2399 ∧ 0 ≤ x4 ∧ x4 ≤ 1 ∧ qbit (ql_and x2 (ql_xor (σ 17 5) (-1))) (x1 / 100) = 1 ∧ qbit (ql_and x2 (ql_xor (σ 17 5) (-1))) (x1 % 100) = 1) ∧ v = ((qFINc σ α f0 f1 x3 (ql_and x2 (ql_xor (σ 17 5) (-1))) x1).1.length : Int) ∧ qTd σ' α' 70 (qFINc σ α f0 f1 x3 (ql_and x2 (ql_xor (σ 17 5) (-1))) x1) ∧ ((x4 = 0 ∧ σ' 17 5 = σ 17 5 ∧ qHq σ' α' h) ∨ (x4 = 1 ∧ σ' 17 5 = ql_or (σ 17 5) (ql_and (ql_and x2 (ql_xor (σ 17 5) (-1))) (ql_xor (qFINc σ α f0 f1 x3 (ql_and x2 (ql_xor (σ 17 5) (-1))) x1).2.1 (-1))) ∧ qHq σ' α' (qkn (qFINc σ α f0 f1 x3 (ql_and x2 (ql_xor (σ 17 5) (-1))) x1).2.2.2 h))))) ∧ (∀ c : Nat, c < 496 → α' 61 c ≤ σ' 58 12) ∧ (∀ c : Nat, c < 496 → α' 63 c ≤ σ' 58 12) ∧ (0 ≤ σ' 58 12 ∧ σ' 58 12 ≤ σ 58 12 + 1) ∧ σ' 58 10 = 0) (142, ls, [], qw σ887 α888 κ ρ, 0, 0) := by
                    intro n
                    induction n with
                    | zero => intro ls u886 σ887 α888 hm g884 g885 hf905 hI889 hF890 hk891 hk892 hk893 hk894 hk895 hk896 hk897 hk898 hk899 hk900 hk901 hk902 hk903 hk904 hx906 hx907; exact False.elim (by omega)
                    | succ n ih909 =>
                      intro ls u886 σ887 α888 hm g884 g885 hf905 hI889 hF890 hk891 hk892 hk893 hk894 hk895 hk896 hk897 hk898 hk899 hk900 hk901 hk902 hk903 hk904 hx906 hx907
                      refine qr_iload 144 rfl g885 rfl ?_
                      refine qr_aload_n 145 rfl g884 rfl ?_
                      refine qr_get 148 rfl rfl rfl (by decide) rfl ?_
                      refine qr_get 151 rfl rfl rfl (by decide) rfl ?_
                      refine qy_v (σ47 70 5) ((hk900).trans rfl) ?_
                      refine qr_icmp_ge 181 154 rfl rfl rfl (qrg hf905 (by decide) (by decide)) (by omega) (fun h910 => ?_) (fun h910 => ?_)
                      · skip
                        refine qr_aload_n 182 rfl g884 rfl ?_
                        refine qr_get 185 rfl rfl rfl (by decide) rfl ?_
                        refine qr_get 188 rfl rfl rfl (by decide) rfl ?_
                        refine qy_v (σ47 70 2) ((hk898).trans rfl) ?_
                        refine qr_retI rfl rfl (by decide) (by decide) ?_
                        exact ⟨_, _, rfl, hI889, hF890, (σ47 70 2), rfl, (by omega), (Or.inr ⟨⟨by omega, by omega, by omega, by omega, (by have hz := hp6; rcases hz with hz | hz; (exact hz.2); (exact absurd hz.1 (by omega))), by omega, by omega, by omega, by omega, by rw [← hv17]; omega, by rw [← hv17]; omega⟩, (by have hl := hx43.1.1; omega), (qTd_c (r := 70) (hk903) (hk904) ((hk898).trans rfl) ((hk899).trans rfl) ((hk900).trans rfl) hx43), (Or.inr ⟨by omega, (((hk891).trans rfl).trans (by rw [ql_val hev62 (by omega) (ql_or_r _ _), ql_val hev61 (by omega) (ql_and_r _ _), ql_val hev60 (by omega) (ql_xor_r _ _), hv17, show σ47 70 3 = _ from hx43.2.1])), (by rw [← qkr_ls hx43.2.2, show (σ47 70 5 : Int).toNat = (u886 : Int).toNat by omega]; exact hx906)⟩)⟩), (fun c hc => by have hz := hx44.1 c hc; rw [← show α888 61 = (α48 61) from hk901] at hz; have hw : σ887 58 12 = (σ47 58 12) := (hk897).trans rfl; have hw2 := hw26; omega), (fun c hc => by have hz := hx45.1 c hc; rw [← show α888 63 = (α48 63) from hk902] at hz; have hw : σ887 58 12 = (σ47 58 12) := (hk897).trans rfl; have hw2 := hw26; omega), (by have hw : σ887 58 12 = (σ47 58 12) := (hk897).trans rfl; have hw2 := hw26; omega), (((hk895).trans rfl).trans hw46)⟩
                      · skip
                        refine qr_aload_n 155 rfl g884 rfl ?_
                        refine qr_get 158 rfl rfl rfl (by decide) rfl ?_
                        refine qr_iconst 159 rfl rfl ?_
                        refine qr_aload_n 160 rfl g884 rfl ?_
                        refine qr_get 163 rfl rfl rfl (by decide) rfl ?_
                        refine qr_get 166 rfl rfl rfl (by decide) rfl ?_
                        refine qr_iload 168 rfl g885 rfl ?_
                        refine qr_iaload 169 rfl rfl (by omega) (by decide) rfl ?_
                        refine qr_topI (fun v911 hv911 => ?_)
                        have hs912 : 0 ≤ v911 ∧ v911 ≤ 59 := by rw [hv911]; exact hI889.2.1 72 _ (show _ < 60 by omega)
                        have hrv911 : v911 = (α48 72) (u886 : Int).toNat := hv911.trans (congrFun hk904 _)
                        refine qr_bipush 171 rfl (by decide) rfl ?_
                        have hz := hm54 (u886 : Int).toNat (by omega)
                        rw [← hrv911] at hz
                        have hs913 : 0 ≤ σ887 17 6 ∧ σ887 17 6 ≤ 32 := hI889.1 17 6
                        have hs914 : σ887 17 6 = (σ 17 6) := (hk892).trans rfl
                        have hs915 : 0 ≤ σ887 27 7 ∧ σ887 27 7 ≤ 40 := hI889.1 27 7
                        have hs916 : σ887 27 7 = (σ 27 7) := (hk893).trans rfl
                        have hs917 : 0 ≤ σ887 34 7 ∧ σ887 34 7 ≤ 60 := hI889.1 34 7
                        have hs918 : σ887 34 7 = (σ 34 7) := (hk894).trans rfl
                        refine qr_callN 174 rfl rfl rfl (sf_52_76x (d := d + 3) hI889 (by decide) (qrg hs912 (by decide) (by decide)) (by decide) hx906 (Or.inr (Or.inr (Or.inr ⟨rfl, by omega, by have hw := hF890.1 34 7 (by decide); omega⟩))) (fun z => absurd z (by decide)) (fun _ => rfl)) ?_
                        rintro _ _ ⟨σ922, α923, rfl, hI924, hG925, v919, rfl, hv919, hp920, hx921⟩
                        have hF926 : qFr [(17, 5), (58, 10), (58, 11), (58, 12), (70, 2), (70, 3), (70, 5), (70, 6), (76, 7), (76, 8)] [20, 33, 35, 41, 53, 57, 59, 60, 61, 62, 63, 71, 72, 77, 78, 79, 80, 85] σ α σ922 α923 := qFr_t hF890 hG925 (by decide) (by decide)
                        show qr_W (qe L xs vb) (d + 6) qx_e133 _ (174, _, [.int (qz v919)], qw σ922 α923 κ ρ, 0, 0)
                        refine qr_pop 175 rfl rfl rfl ?_
                        refine qr_iinc _ 178 rfl g885 (by decide) rfl rfl ?_
                        refine qr_goto 142 rfl rfl ?_
                        exact ih909 _ (u886 + 1) σ922 α923 (by omega) (qm_gk g884 (by decide) (Or.inl (by decide))) (qm_ge _ _ _) (by omega) hI924 hF926 ((hG925.1 17 5 (by decide)).trans ((hk891).trans rfl)) ((hG925.1 17 6 (by decide)).trans ((hk892).trans rfl)) ((hG925.1 27 7 (by decide)).trans ((hk893).trans rfl)) ((hG925.1 34 7 (by decide)).trans ((hk894).trans rfl)) ((hG925.1 58 10 (by decide)).trans ((hk895).trans rfl)) ((hG925.1 58 11 (by decide)).trans ((hk896).trans rfl)) ((hG925.1 58 12 (by decide)).trans ((hk897).trans rfl)) ((hG925.1 70 2 (by decide)).trans ((hk898).trans rfl)) ((hG925.1 70 3 (by decide)).trans ((hk899).trans rfl)) ((hG925.1 70 5 (by decide)).trans ((hk900).trans rfl)) ((hG925.2 61 (by decide)).trans hk901) ((hG925.2 63 (by decide)).trans hk902) ((hG925.2 71 (by decide)).trans hk903) ((hG925.2 72 (by decide)).trans hk904) (qkr_s (by omega) hrv911 hx921) (by omega)
                  exact hL908 ((60 - 0 + 1 : Int)).toNat _ 0 σ63 α48 (by omega) rfl rfl (by decide) hI65 hF66 ((congrFun (congrFun e64 17) 5).trans rfl) ((congrFun (congrFun e64 17) 6).trans ((hG50.1 17 6 (by decide)).trans ((hG29.1 17 6 (by decide)).trans rfl))) ((congrFun (congrFun e64 27) 7).trans ((hG50.1 27 7 (by decide)).trans ((hG29.1 27 7 (by decide)).trans rfl))) ((congrFun (congrFun e64 34) 7).trans ((hG50.1 34 7 (by decide)).trans ((hG29.1 34 7 (by decide)).trans rfl))) ((congrFun (congrFun e64 58) 10).trans rfl) ((congrFun (congrFun e64 58) 11).trans ((hG50.1 58 11 (by decide)).trans rfl)) ((congrFun (congrFun e64 58) 12).trans rfl) ((congrFun (congrFun e64 70) 2).trans rfl) ((congrFun (congrFun e64 70) 3).trans rfl) ((congrFun (congrFun e64 70) 5).trans rfl) rfl rfl rfl rfl hH67 (by omega)
            · skip
              refine qr_iconst 80 rfl rfl ?_
              refine qr_retI rfl rfl (by decide) (by decide) ?_
              exact ⟨_, _, rfl, hI, hF0, (-1), rfl, (by decide), (Or.inl ⟨rfl, (fun hc => by rcases hc with ⟨c1, c2, c3, c4, c5, c6, c7, c8, c9, c10, c11⟩; rw [← hv17] at c10 c11; first | omega | (have hz := hp6; rcases hz with hz | hz; (omega); (exact hz.2 c5))), p7, rfl, rfl, rfl, rfl⟩), p4, p5, (by omega), p3⟩
        · skip
          refine qr_iconst 39 rfl rfl ?_
          refine qr_retI rfl rfl (by decide) (by decide) ?_
          exact ⟨_, _, rfl, hI, hF0, (-1), rfl, (by decide), (Or.inl ⟨rfl, (fun hc => by rcases hc with ⟨c1, c2, c3, c4, c5, c6, c7, c8, c9, c10, c11⟩; first | omega | (have hz := hp6; rcases hz with hz | hz; (omega); (exact hz.2 c5))), p7, rfl, rfl, rfl, rfl⟩), p4, p5, (by omega), p3⟩

set_option maxHeartbeats 4000000 in
set_option maxRecDepth 20000 in
/-- OneRoofModel.strike -/
theorem sf_245_86x {L : Nat} {xs : Nat → Int} {vb : Bool} {d : Nat} {σ α : Nat → Nat → Int} {κ : Nat → Option Nat} {ρ : Nat} {x1 : Int} {x2 : Int} {x3 : Int} {x4 : Int} {g0 g1 : (Nat → Int) → Int} (hI : qI σ α κ ρ) (r1 : (-2147483648) ≤ x1 ∧ x1 ≤ 2147483647) (r2 : (-9223372036854775808) ≤ x2 ∧ x2 ≤ 9223372036854775807) (r3 : (-2147483648) ≤ x3 ∧ x3 ≤ 2147483647) (r4 : (-2147483648) ≤ x4 ∧ x4 ≤ 2147483647) (p0 : qPG σ α 0 g0) (p1 : qPG σ α 1 g1) (p2 : qZf σ α) (p3 : qZk σ α) (p4 : σ 86 41 = 0) (p5 : σ 86 29 = 0) : qm_T (qe L xs vb) (d + 50) 245 [.ref 86, .int (qz x1), .long (ql x2), .int (qz x3), .int (qz x4)] (qw σ α κ ρ) (fun r w' => ∃ σ' α', w' = qw σ' α' κ ρ ∧ qI σ' α' κ ρ ∧ qFr [(86, 4), (86, 5), (86, 10), (86, 15), (86, 23), (86, 29), (86, 30), (86, 35), (86, 36), (86, 37), (86, 38), (86, 39), (86, 50), (86, 51)] [87, 88, 89, 90, 96, 109, 115, 116] σ α σ' α' ∧ ∃ v : Int, r = some (.int (qz v)) ∧ ((-2147483648) ≤ v ∧ v ≤ 2147483647) ∧ ((v = -1 ∧ ¬ (0 ≤ x1 ∧ x1 / 100 < σ 86 6 ∧ x1 % 100 < σ 86 6 ∧ ¬ x1 / 100 = x1 % 100 ∧ qst x2 (σ 86 6) ∧ 0 ≤ x3 ∧ x3 ≤ 2399 ∧ 0 ≤ x4 ∧ x4 ≤ 1 ∧ qbit (ql_and x2 (ql_xor (σ 86 10) (-1))) (x1 / 100) = 1 ∧ qbit (ql_and x2 (ql_xor (σ 86 10) (-1))) (x1 % 100) = 1) ∧ α' 87 = α 87 ∧ α' 88 = α 88 ∧ α' 89 = α 89 ∧ α' 90 = α 90 ∧ σ' 86 5 = σ 86 5 ∧ σ' 86 4 = σ 86 4 ∧ σ' 86 10 = σ 86 10 ∧ σ' 86 50 = σ 86 50 ∧ σ' 86 51 = σ 86 51 ∧ α' 115 = α 115 ∧ α' 116 = α 116 ∧ σ' 86 29 = σ 86 29) ∨ ((0 ≤ x1 ∧ x1 / 100 < σ 86 6 ∧ x1 % 100 < σ 86 6 ∧ ¬ x1 / 100 = x1 % 100 ∧ qst x2 (σ 86 6) ∧ 0 ≤ x3 ∧ x3 ≤ 2399 ∧ 0 ≤ x4 ∧ x4 ≤ 1 ∧ qbit (ql_and x2 (ql_xor (σ 86 10) (-1))) (x1 / 100) = 1 ∧ qbit (ql_and x2 (ql_xor (σ 86 10) (-1))) (x1 % 100) = 1) ∧ v = ((qFINm σ α g0 g1 x3 (ql_and x2 (ql_xor (σ 86 10) (-1))) x1).1.length : Int) ∧ qTe σ' α' (qFINm σ α g0 g1 x3 (ql_and x2 (ql_xor (σ 86 10) (-1))) x1) ∧ ((x4 = 0 ∧ σ' 86 10 = σ 86 10 ∧ (α' 87 = α 87 ∧ α' 88 = α 88 ∧ α' 89 = α 89 ∧ α' 90 = α 90 ∧ σ' 86 5 = σ 86 5 ∧ σ' 86 4 = σ 86 4) ∧ σ' 86 29 = 0) ∨ (x4 = 1 ∧ σ' 86 10 = ql_or (σ 86 10) (ql_and (ql_and x2 (ql_xor (σ 86 10) (-1))) (ql_xor (qFINm σ α g0 g1 x3 (ql_and x2 (ql_xor (σ 86 10) (-1))) x1).2.1 (-1))) ∧ ((α' 87, α' 88, α' 89, α' 90, σ' 86 5, σ' 86 4) : qHS) = qkn (qFINm σ α g0 g1 x3 (ql_and x2 (ql_xor (σ 86 10) (-1))) x1).2.2.2 ((α 87, α 88, α 89, α 90, σ 86 5, σ 86 4) : qHS) ∧ σ' 86 29 = 0))))) := by
  refine qr_start (d := d + 49) qv_e245 (Nat.le_of_ble_eq_true rfl) ?_
  show qr_W (qe L xs vb) (d + 49) qx_e245 _ (0, [(0, .ref 86), (1, .int (qz x1)), (2, .long (ql x2)), (4, .int (qz x3)), (5, .int (qz x4))], [], _, 0, 0)
  have hF0 := qFr_rf [(86, 4), (86, 5), (86, 10), (86, 15), (86, 23), (86, 29), (86, 30), (86, 35), (86, 36), (86, 37), (86, 38), (86, 39), (86, 50), (86, 51)] [87, 88, 89, 90, 96, 109, 115, 116] σ α
  have hz86_41 : 0 ≤ σ 86 41 ∧ σ 86 41 ≤ 1 := hI.1 86 41
  have hz86_29 : (-9223372036854775808) ≤ σ 86 29 ∧ σ 86 29 ≤ 9223372036854775807 := hI.1 86 29
  have hz86_4 : 0 ≤ σ 86 4 ∧ σ 86 4 ≤ 40 := hI.1 86 4
  have hz86_5 : 0 ≤ σ 86 5 ∧ σ 86 5 ≤ 40 := hI.1 86 5
  have hz86_6 : 0 ≤ σ 86 6 ∧ σ 86 6 ≤ 32 := hI.1 86 6
  have hz86_10 : (-9223372036854775808) ≤ σ 86 10 ∧ σ 86 10 ≤ 9223372036854775807 := hI.1 86 10
  have hz86_24 : 0 ≤ σ 86 24 ∧ σ 86 24 ≤ 60 := hI.1 86 24
  have hz86_50 : 0 ≤ σ 86 50 ∧ σ 86 50 ≤ 31 := hI.1 86 50
  have hz86_51 : (-9223372036854775808) ≤ σ 86 51 ∧ σ 86 51 ≤ 9223372036854775807 := hI.1 86 51
  refine qr_aload_n 1 rfl rfl rfl ?_
  refine qr_iload_n 2 rfl rfl rfl ?_
  refine qr_callN 5 rfl rfl rfl (sf_191_86 (d := d + 46) hI r1) ?_
  have hs3 : 0 ≤ σ 86 6 ∧ σ 86 6 ≤ 32 := hI.1 86 6
  rintro _ _ ⟨rfl, v1, rfl, hv1, hp2⟩
  show qr_W (qe L xs vb) (d + 49) qx_e245 _ (5, _, [.int (qz v1)], qw σ α κ ρ, 0, 0)
  refine qr_if_eq 35 8 rfl rfl rfl (qrg hv1 (by decide) (by decide)) (fun h4 => ?_) (fun h4 => ?_)
  · skip
    refine qr_iconst 36 rfl rfl ?_
    refine qr_retI rfl rfl (by decide) (by decide) ?_
    exact ⟨_, _, rfl, hI, hF0, (-1), rfl, (by decide), (Or.inl ⟨rfl, (fun hc => by rcases hc with ⟨c1, c2, c3, c4, c5, c6, c7, c8, c9, c10, c11⟩; first | omega | (omega)), rfl, rfl, rfl, rfl, rfl, rfl, rfl, rfl, rfl, rfl, rfl, rfl⟩)⟩
  · skip
    refine qr_aload_n 9 rfl rfl rfl ?_
    refine qr_lload_n 10 rfl rfl rfl ?_
    refine qr_callN 13 rfl rfl rfl (sf_225_86x (d := d + 48) hI r2) ?_
    have hs7 : 0 ≤ σ 86 6 ∧ σ 86 6 ≤ 32 := hI.1 86 6
    rintro _ _ ⟨rfl, v5, rfl, hv5, hp6⟩
    show qr_W (qe L xs vb) (d + 49) qx_e245 _ (13, _, [.int (qz v5)], qw σ α κ ρ, 0, 0)
    refine qr_if_eq 35 16 rfl rfl rfl (qrg hv5 (by decide) (by decide)) (fun h8 => ?_) (fun h8 => ?_)
    · skip
      refine qr_iconst 36 rfl rfl ?_
      refine qr_retI rfl rfl (by decide) (by decide) ?_
      exact ⟨_, _, rfl, hI, hF0, (-1), rfl, (by decide), (Or.inl ⟨rfl, (fun hc => by rcases hc with ⟨c1, c2, c3, c4, c5, c6, c7, c8, c9, c10, c11⟩; first | omega | (have hz := hp6; rcases hz with hz | hz; (omega); (exact hz.2 c5))), rfl, rfl, rfl, rfl, rfl, rfl, rfl, rfl, rfl, rfl, rfl, rfl⟩)⟩
    · skip
      refine qr_iload 18 rfl rfl rfl ?_
      refine qr_callN 21 rfl rfl rfl (sf_192 (d := d + 47) hI r3) ?_
      rintro _ _ ⟨rfl, v9, rfl, hv9, hp10⟩
      show qr_W (qe L xs vb) (d + 49) qx_e245 _ (21, _, [.int (qz v9)], qw σ α κ ρ, 0, 0)
      refine qr_if_eq 35 24 rfl rfl rfl (qrg hv9 (by decide) (by decide)) (fun h11 => ?_) (fun h11 => ?_)
      · skip
        refine qr_iconst 36 rfl rfl ?_
        refine qr_retI rfl rfl (by decide) (by decide) ?_
        exact ⟨_, _, rfl, hI, hF0, (-1), rfl, (by decide), (Or.inl ⟨rfl, (fun hc => by rcases hc with ⟨c1, c2, c3, c4, c5, c6, c7, c8, c9, c10, c11⟩; first | omega | (have hz := hp6; rcases hz with hz | hz; (omega); (exact hz.2 c5))), rfl, rfl, rfl, rfl, rfl, rfl, rfl, rfl, rfl, rfl, rfl, rfl⟩)⟩
      · skip
        refine qr_iload 26 rfl rfl rfl ?_
        refine qr_i2l 27 rfl r4 rfl ?_
        refine qr_lconst 28 rfl rfl ?_
        refine qy_vl 0 rfl ?_
        refine qr_lconst 29 rfl rfl ?_
        refine qy_vl 1 rfl ?_
        refine qr_callN 32 rfl rfl rfl (sf_176 (d := d + 48) hI (qrg r4 (by decide) (by decide)) (by decide) (by decide)) ?_
        rintro _ _ ⟨rfl, v12, rfl, hv12, hp13⟩
        show qr_W (qe L xs vb) (d + 49) qx_e245 _ (32, _, [.int (qz v12)], qw σ α κ ρ, 0, 0)
        refine qr_if_ne 37 35 rfl rfl rfl (qrg hv12 (by decide) (by decide)) (fun h14 => ?_) (fun h14 => ?_)
        · skip
          refine qr_lload_n 38 rfl rfl rfl ?_
          refine qr_aload_n 39 rfl rfl rfl ?_
          refine qr_get 42 rfl rfl rfl (by decide) rfl ?_
          refine qr_ldc2 (-1) 45 rfl (by decide) rfl ?_
          refine qr_lxor 46 rfl rfl ?_
          refine qy_canlE (fun v15 hv15 hev15 => ?_)
          refine qr_land 47 rfl rfl ?_
          refine qy_canlE (fun v16 hv16 hev16 => ?_)
          refine qr_lstore _ 49 rfl (by decide) rfl rfl ?_
          have hv17 : v16 = ql_and x2 (ql_xor (σ 86 10) (-1)) := by rw [ql_val hev16 (by omega) (ql_and_r _ _), ql_val hev15 (by omega) (ql_xor_r _ _)]
          refine qr_lload 51 rfl rfl rfl ?_
          refine qr_iload_n 52 rfl rfl rfl ?_
          refine qr_bipush 54 rfl (by decide) rfl ?_
          refine qr_idiv 55 rfl (by omega) (by decide) rfl ?_
          refine qr_callN 58 rfl rfl rfl (sf_226x (d := d + 48) hI hv16 (by omega)) ?_
          rintro _ _ ⟨rfl, v18, rfl, hv18, hp19⟩
          show qr_W (qe L xs vb) (d + 49) qx_e245 _ (58, _, [.int (qz v18)], qw σ α κ ρ, 0, 0)
          refine qr_if_eq 73 61 rfl rfl rfl (qrg hv18 (by decide) (by decide)) (fun h20 => ?_) (fun h20 => ?_)
          · skip
            refine qr_iconst 74 rfl rfl ?_
            refine qr_retI rfl rfl (by decide) (by decide) ?_
            exact ⟨_, _, rfl, hI, hF0, (-1), rfl, (by decide), (Or.inl ⟨rfl, (fun hc => by rcases hc with ⟨c1, c2, c3, c4, c5, c6, c7, c8, c9, c10, c11⟩; rw [← hv17] at c10 c11; first | omega | (have hz := hp6; rcases hz with hz | hz; (omega); (exact hz.2 c5))), rfl, rfl, rfl, rfl, rfl, rfl, rfl, rfl, rfl, rfl, rfl, rfl⟩)⟩
          · skip
            refine qr_lload 63 rfl rfl rfl ?_
            refine qr_iload_n 64 rfl rfl rfl ?_
            refine qr_bipush 66 rfl (by decide) rfl ?_
            refine qr_irem 67 rfl (by omega) (by decide) rfl ?_
            refine qr_callN 70 rfl rfl rfl (sf_226x (d := d + 48) hI hv16 (by omega)) ?_
            rintro _ _ ⟨rfl, v21, rfl, hv21, hp22⟩
            show qr_W (qe L xs vb) (d + 49) qx_e245 _ (70, _, [.int (qz v21)], qw σ α κ ρ, 0, 0)
            refine qr_if_ne 75 73 rfl rfl rfl (qrg hv21 (by decide) (by decide)) (fun h23 => ?_) (fun h23 => ?_)
            · skip
              refine qr_aload_n 76 rfl rfl rfl ?_
              refine qr_get 79 rfl rfl rfl (by decide) rfl ?_
              refine qr_lstore _ 81 rfl (by decide) rfl rfl ?_
              refine qr_aload_n 82 rfl rfl rfl ?_
              refine qr_iload_n 83 rfl rfl rfl ?_
              refine qr_lload 85 rfl rfl rfl ?_
              refine qr_iload 87 rfl rfl rfl ?_
              refine qr_iload 89 rfl rfl rfl ?_
              refine qr_iconst 90 rfl rfl ?_
              refine qr_icmp_ne 97 93 rfl rfl rfl r4 (by decide) (fun h24 => ?_) (fun h24 => ?_)
              · skip
                refine qr_iconst 98 rfl rfl ?_
                have hs25 : (-9223372036854775808) ≤ σ 86 29 ∧ σ 86 29 ≤ 9223372036854775807 := hI.1 86 29
                have hs26 : 0 ≤ σ 86 41 ∧ σ 86 41 ≤ 1 := hI.1 86 41
                have hs27 : 0 ≤ σ 86 6 ∧ σ 86 6 ≤ 32 := hI.1 86 6
                refine qr_callN 101 rfl rfl rfl (sf_246_86x0 (d := d + 0) hI (by omega) hv16 r3 (by omega) (by omega) p0 p1 p2 p3 p5 p4) ?_
                rintro _ _ ⟨σ30, α31, rfl, hI32, hG33, rfl, hx28, hx29⟩
                have hF34 : qFr [(86, 4), (86, 5), (86, 10), (86, 15), (86, 23), (86, 29), (86, 30), (86, 35), (86, 36), (86, 37), (86, 38), (86, 39), (86, 50), (86, 51)] [87, 88, 89, 90, 96, 109, 115, 116] σ α σ30 α31 := qFr_t hF0 hG33 (by decide) (by decide)
                show qr_W (qe L xs vb) (d + 49) qx_e245 _ (101, _, [], qw σ30 α31 κ ρ, 0, 0)
                rw [hv17, qand_id] at hx28
                rw [hv17, qand_id] at hx29
                have hs35 : 0 ≤ σ30 86 50 ∧ σ30 86 50 ≤ 31 := hI32.1 86 50
                have hs36 : (-9223372036854775808) ≤ σ30 86 51 ∧ σ30 86 51 ≤ 9223372036854775807 := hI32.1 86 51
                have hs37 : (-9223372036854775808) ≤ σ30 86 10 ∧ σ30 86 10 ≤ 9223372036854775807 := hI32.1 86 10
                refine qr_iload 103 rfl rfl rfl ?_
                refine qr_if_ne 117 106 rfl rfl rfl r4 (fun h => False.elim (by omega)) (fun h38 => ?_)
                as_aux_lemma =>
                  refine qr_aload_n 107 rfl rfl rfl ?_
                  refine qr_lload 109 rfl rfl rfl ?_
                  refine qr_put 112 rfl (by decide) rfl (Nat.le_of_ble_eq_true rfl) (Nat.le_of_ble_eq_true rfl) (Or.inl rfl) (qr_fitL rfl _) rfl ?_
                  refine qy_wS (qw_s σ30 86 10 (σ 86 10)) rfl (fun σ39 e40 => ?_)
                  have hI41 : qI σ39 α31 κ ρ := by rw [e40]; exact qI_s hI32 86 10 rfl (show (-9223372036854775808) ≤ (σ 86 10) ∧ (σ 86 10) ≤ 9223372036854775807 by omega)
                  have hF42 : qFr [(86, 4), (86, 5), (86, 10), (86, 15), (86, 23), (86, 29), (86, 30), (86, 35), (86, 36), (86, 37), (86, 38), (86, 39), (86, 50), (86, 51)] [87, 88, 89, 90, 96, 109, 115, 116] σ α σ39 α31 := by rw [e40]; exact qFr_s hF34 86 10 _ (by decide)
                  refine qr_aload_n 113 rfl rfl rfl ?_
                  refine qr_lconst 114 rfl rfl ?_
                  refine qy_vl 0 rfl ?_
                  refine qr_put 117 rfl (by decide) rfl (Nat.le_of_ble_eq_true rfl) (Nat.le_of_ble_eq_true rfl) (Or.inl rfl) (qr_fitL rfl _) rfl ?_
                  refine qy_wS (qw_s σ39 86 29 0) rfl (fun σ43 e44 => ?_)
                  have hI45 : qI σ43 α31 κ ρ := by rw [e44]; exact qI_s hI41 86 29 rfl (show (-9223372036854775808) ≤ 0 ∧ 0 ≤ 9223372036854775807 by omega)
                  have hF46 : qFr [(86, 4), (86, 5), (86, 10), (86, 15), (86, 23), (86, 29), (86, 30), (86, 35), (86, 36), (86, 37), (86, 38), (86, 39), (86, 50), (86, 51)] [87, 88, 89, 90, 96, 109, 115, 116] σ α σ43 α31 := by rw [e44]; exact qFr_s hF42 86 29 _ (by decide)
                  refine qr_aload_n 118 rfl rfl rfl ?_
                  refine qr_get 121 rfl rfl rfl (by decide) rfl ?_
                  refine qy_v (σ30 86 50) ((congrFun (congrFun e44 86) 50).trans ((congrFun (congrFun e40 86) 50).trans rfl)) ?_
                  refine qr_retI rfl rfl (by decide) (by decide) ?_
                  exact ⟨_, _, rfl, hI45, hF46, (σ30 86 50), rfl, (by omega), (Or.inr ⟨⟨by omega, by omega, by omega, by omega, (by have hz := hp6; rcases hz with hz | hz; (exact hz.2); (exact absurd hz.1 (by omega))), by omega, by omega, by omega, by omega, by rw [← hv17]; omega, by rw [← hv17]; omega⟩, (hx28.1.1).symm, (qTe_of (σ := σ30) ((congrFun (congrFun e44 86) 50).trans ((congrFun (congrFun e40 86) 50).trans rfl)) ((congrFun (congrFun e44 86) 51).trans ((congrFun (congrFun e40 86) 51).trans rfl)) hx28 hx29), (Or.inl ⟨by omega, (congrFun (congrFun e44 86) 10).trans ((congrFun (congrFun e40 86) 10).trans rfl), ⟨hG33.2 87 (by decide), hG33.2 88 (by decide), hG33.2 89 (by decide), hG33.2 90 (by decide), ((congrFun (congrFun e44 86) 5).trans (congrFun (congrFun e40 86) 5)).trans (hG33.1 86 5 (by decide)), ((congrFun (congrFun e44 86) 4).trans (congrFun (congrFun e40 86) 4)).trans (hG33.1 86 4 (by decide))⟩, (congrFun (congrFun e44 86) 29).trans rfl⟩)⟩)⟩
              · skip
                refine qr_iconst 94 rfl rfl ?_
                refine qr_goto 98 rfl rfl ?_
                have hs47 : (-9223372036854775808) ≤ σ 86 29 ∧ σ 86 29 ≤ 9223372036854775807 := hI.1 86 29
                have hs48 : 0 ≤ σ 86 41 ∧ σ 86 41 ≤ 1 := hI.1 86 41
                have hs49 : 0 ≤ σ 86 6 ∧ σ 86 6 ≤ 32 := hI.1 86 6
                refine qr_callN 101 rfl rfl rfl (sf_246_86x1 (d := d + 0) hI (by omega) hv16 r3 (by omega) (by omega) p0 p1 p2 p3 p5 p4 (by have hw := qband_c x2 (ql_xor (σ 86 10) (-1)) (x1 % 100); rw [← hv17] at hw; omega)) ?_
                rintro _ _ ⟨σ54, α55, rfl, hI56, hG57, rfl, hx50, hx51, hx52, hx53⟩
                have hF58 : qFr [(86, 4), (86, 5), (86, 10), (86, 15), (86, 23), (86, 29), (86, 30), (86, 35), (86, 36), (86, 37), (86, 38), (86, 39), (86, 50), (86, 51)] [87, 88, 89, 90, 96, 109, 115, 116] σ α σ54 α55 := qFr_t hF0 hG57 (by decide) (by decide)
                show qr_W (qe L xs vb) (d + 49) qx_e245 _ (101, _, [], qw σ54 α55 κ ρ, 0, 0)
                rw [hv17, qand_id] at hx50
                rw [hv17, qand_id] at hx51
                rw [hv17, qand_id] at hx52
                rw [hv17] at hx53
                have hs59 : 0 ≤ σ54 86 50 ∧ σ54 86 50 ≤ 31 := hI56.1 86 50
                have hs60 : (-9223372036854775808) ≤ σ54 86 51 ∧ σ54 86 51 ≤ 9223372036854775807 := hI56.1 86 51
                have hs61 : (-9223372036854775808) ≤ σ54 86 10 ∧ σ54 86 10 ≤ 9223372036854775807 := hI56.1 86 10
                refine qr_iload 103 rfl rfl rfl ?_
                as_aux_lemma =>
                  refine qr_if_ne 117 106 rfl rfl rfl r4 (fun h62 => ?_) (fun h => False.elim (by omega))
                  refine qr_aload_n 118 rfl rfl rfl ?_
                  refine qr_get 121 rfl rfl rfl (by decide) rfl ?_
                  refine qr_retI rfl rfl (by decide) (by decide) ?_
                  exact ⟨_, _, rfl, hI56, hF58, (σ54 86 50), rfl, (by omega), (Or.inr ⟨⟨by omega, by omega, by omega, by omega, (by have hz := hp6; rcases hz with hz | hz; (exact hz.2); (exact absurd hz.1 (by omega))), by omega, by omega, by omega, by omega, by rw [← hv17]; omega, by rw [← hv17]; omega⟩, (hx50.1.1).symm, (qTe_of (σ := σ54) (rfl) (rfl) hx50 hx51), (Or.inr ⟨by omega, (by have hz := qDe_eq (by omega) hx53 hx50.2; rw [qand_id] at hz; exact hz), hx52, (hG57.1 86 29 (by decide)).trans p5⟩)⟩)⟩
            · skip
              refine qr_iconst 74 rfl rfl ?_
              refine qr_retI rfl rfl (by decide) (by decide) ?_
              exact ⟨_, _, rfl, hI, hF0, (-1), rfl, (by decide), (Or.inl ⟨rfl, (fun hc => by rcases hc with ⟨c1, c2, c3, c4, c5, c6, c7, c8, c9, c10, c11⟩; rw [← hv17] at c10 c11; first | omega | (have hz := hp6; rcases hz with hz | hz; (omega); (exact hz.2 c5))), rfl, rfl, rfl, rfl, rfl, rfl, rfl, rfl, rfl, rfl, rfl, rfl⟩)⟩
        · skip
          refine qr_iconst 36 rfl rfl ?_
          refine qr_retI rfl rfl (by decide) (by decide) ?_
          exact ⟨_, _, rfl, hI, hF0, (-1), rfl, (by decide), (Or.inl ⟨rfl, (fun hc => by rcases hc with ⟨c1, c2, c3, c4, c5, c6, c7, c8, c9, c10, c11⟩; first | omega | (have hz := hp6; rcases hz with hz | hz; (omega); (exact hz.2 c5))), rfl, rfl, rfl, rfl, rfl, rfl, rfl, rfl, rfl, rfl, rfl, rfl⟩)⟩
