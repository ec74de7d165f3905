section
/-! what a custom gives for two -/
theorem qbit_qbi (t : Int) {i : Int} (h : 0 ≤ i ∧ i < 32) : qbit t i = qbi t i := by
  have e : qlz t = qlu t % 2 ^ 32 := qz_lo t
  rw [qbit_if, qbi_if, e, Nat.testBit_mod_two_pow]
  have h2 : decide (i.toNat < 32) = true := by rw [decide_eq_true_eq]; omega
  rw [h2, Bool.true_and]
def qshF (ld : Nat → Int) (p t : Int) (r : Nat) : Int := if qbit t (r : Int) = 1 ∧ ((r : Int) = p ∨ (0 ≤ ld r ∧ ld r = ld p.toNat)) then 1 else 0
theorem qshF_c (ld : Nat → Int) (p t : Int) {i : Int} (h : 0 ≤ i) : (qshF ld p t i.toNat = 1 ∧ qbit t i = 1 ∧ (i = p ∨ (0 ≤ ld i.toNat ∧ ld i.toNat = ld p.toNat))) ∨ (qshF ld p t i.toNat = 0 ∧ ¬ (qbit t i = 1 ∧ (i = p ∨ (0 ≤ ld i.toNat ∧ ld i.toNat = ld p.toNat)))) := by
  have e : ((i.toNat : Nat) : Int) = i := by omega
  unfold qshF
  rw [e]
  by_cases c : qbit t i = 1 ∧ (i = p ∨ (0 ≤ ld i.toNat ∧ ld i.toNat = ld p.toNat))
  · exact Or.inl ⟨if_pos c, c⟩
  · exact Or.inr ⟨if_neg c, c⟩
theorem qshF_01 (ld : Nat → Int) (p t : Int) (r : Nat) : 0 ≤ qshF ld p t r ∧ qshF ld p t r ≤ 1 := by
  unfold qshF
  split <;> omega
theorem qhd_cn {f : Nat → Int} (h01 : ∀ k, 0 ≤ f k ∧ f k ≤ 1) {n : Nat} (hn : n ≤ 64) (b : Int) : qcn (ql_and (qbs f n) (ql_xor b (-1))) 64 = qsm (qhG b f) n := by
  have g01 : ∀ k, 0 ≤ qhG b f k ∧ qhG b f k ≤ 1 := fun k => by
    unfold qhG
    split
    · omega
    · exact h01 k
  have e : ql_and (qbs f n) (ql_xor b (-1)) = qbs (qhG b f) n := by
    refine qbit_ext (ql_and_r _ _) (qbs_r _ _) (fun i hi hi2 => ?_)
    rw [qbit_and, qbs_bit f hi n hn, qbs_bit (qhG b f) hi n hn, qbit_not b ⟨hi, hi2⟩]
    have hb := qbit_r b i
    have e2 : ((i.toNat : Nat) : Int) = i := by omega
    have e3 : qhG b f i.toNat = if qbit b i = 1 then 0 else f i.toNat := by
      show (if qbit b ((i.toNat : Nat) : Int) = 1 then 0 else f i.toNat) = _
      rw [e2]
    rw [e3]
    by_cases c : i < (n : Int) ∧ f i.toNat = 1
    · rw [if_pos c]
      by_cases d : qbit b i = 1
      · rw [if_pos d, if_neg (by omega), if_neg (fun z => absurd z.2 (by decide))]
      · rw [if_neg d, if_pos ⟨rfl, by omega⟩, if_pos c]
    · rw [if_neg c, if_neg (fun z => absurd z.1 (by decide))]
      by_cases d : qbit b i = 1
      · rw [if_pos d, if_neg (fun z => absurd z.2 (by decide))]
      · rw [if_neg d, if_neg c]
  rw [e]
  exact qbs_cn g01 hn
def qnF1 (k : Int) : Int := if k < 576 then 1 else 0
def qm9 (a : Int) : Int := if a ≤ 9 then a else 9
theorem qm9_of {a v w : Int} (hw : w = a) (h : (v = w ∨ v = 9) ∧ v ≤ w ∧ v ≤ 9) : v = qm9 a := by
  unfold qm9
  split <;> omega
def qnv (a0 a1 a2 a3 a4 a5 a6 a7 a8 : Int) (k : Nat) : Int := if k = 0 then a0 else if k = 1 then a1 else if k = 2 then a2 else if k = 3 then a3 else if k = 4 then a4 else if k = 5 then a5 else if k = 6 then a6 else if k = 7 then a7 else a8
def qAs (nm : Int) (r N : Nat → Int) (k : Int) : Prop := qbi nm k = 1 → r k.toNat = N k.toNat
theorem qAs_no {nm k : Int} {r N : Nat → Int} (h : ¬ qbi nm k = 1) : qAs nm r N k := fun z => absurd z h
theorem qAs_yes {nm k : Int} {r N : Nat → Int} (h : r k.toNat = N k.toNat) : qAs nm r N k := fun _ => h
theorem qAs_tr {nm k : Int} {r r2 N : Nat → Int} (e : r2 k.toNat = r k.toNat) (h : qAs nm r N k) : qAs nm r2 N k := fun z => e.trans (h z)
theorem qCaN_c {s s2 t t2 : Nat → Int} {st : Int} {F : Int → Int → Int} (e1 : s2 = s) (e2 : t2 = t) (h : qCaN s t st F) : qCaN s2 t2 st F := by rw [e1, e2]; exact h
theorem qwo_v {cd N N' st : Nat → Int} {z nm v : Int} {gi f : (Nat → Int) → Int} (hY : qtx_Y cd z gi f) (hD : qDep nm f) (hv : v = qwv cd N z 0 st 0) (h0 : qAs nm N N' 0) (h1 : qAs nm N N' 1) (h2 : qAs nm N N' 2) (h7 : qAs nm N N' 7) (h3 : N 3 = N' 3) (h4 : N 4 = N' 4) (h5 : N 5 = N' 5) (h6 : N 6 = N' 6) (h8 : N 8 = N' 8) : v = f N' := by
  rw [hv, qtx_Y_all hY]
  refine hD N N' (fun k a b c => ?_)
  have hk : k = 0 ∨ k = 1 ∨ k = 2 ∨ k = 3 ∨ k = 4 ∨ k = 5 ∨ k = 6 ∨ k = 7 ∨ k = 8 := by omega
  rcases hk with e | e | e | e | e | e | e | e | e
  · rw [e] at c ⊢; exact h0 c
  · rw [e] at c ⊢; exact h1 c
  · rw [e] at c ⊢; exact h2 c
  · rw [e]; exact h3
  · rw [e]; exact h4
  · rw [e]; exact h5
  · rw [e]; exact h6
  · rw [e] at c ⊢; exact h7 c
  · rw [e]; exact h8
def qPW (σ α : Nat → Nat → Int) (κ : Nat → Option Nat) (u : Nat) (f : (Nat → Int) → Int) : Prop := ∀ c : Nat, κ u = some c → (c = 50 ∨ c = 54 ∨ c = 82) → ∃ gi : (Nat → Int) → Int, qtx_Y (α (c + 2)) (σ c 5) gi f ∧ qDep (σ c 6) f ∧ qCr (α (c + 2)) 0 (σ c 5)
theorem qPW_fr {S : List (Nat × Nat)} {R : List Nat} {σ α σ' α' : Nat → Nat → Int} {κ : Nat → Option Nat} {u : Nat} {f : (Nat → Int) → Int} (hG : qFr S R σ α σ' α') (hs : [(50, 5), (50, 6), (54, 5), (54, 6), (82, 5), (82, 6)].all (fun x => !S.contains x) = true) (hr : [52, 56, 84].all (fun x => !R.contains x) = true) (h : qPW σ α κ u f) : qPW σ' α' κ u f := by
  have es : ∀ a k, (a, k) ∈ [(50, 5), (50, 6), (54, 5), (54, 6), (82, 5), (82, 6)] → σ' a k = σ a k := fun a k hm => hG.1 a k (fun hn => by
    have h1 := List.all_eq_true.mp hs (a, k) hm
    rw [List.contains_iff_mem.mpr hn] at h1
    exact absurd h1 (by decide))
  have er : ∀ a, a ∈ [52, 56, 84] → α' a = α a := fun a hm => hG.2 a (fun hn => by
    have h1 := List.all_eq_true.mp hr a hm
    rw [List.contains_iff_mem.mpr hn] at h1
    exact absurd h1 (by decide))
  intro c hc hq
  have h1 := h c hc hq
  rcases hq with rfl | rfl | rfl
  · rw [er (50 + 2) (by decide), es 50 5 (by decide), es 50 6 (by decide)]; exact h1
  · rw [er (54 + 2) (by decide), es 54 5 (by decide), es 54 6 (by decide)]; exact h1
  · rw [er (82 + 2) (by decide), es 82 5 (by decide), es 82 6 (by decide)]; exact h1
noncomputable def qNVc (σ α : Nat → Nat → Int) (b p q st th : Int) : Nat → Int := qnv (qnF1 (qnF (qTb (α 24)) (α 28) (α 29) (α 31) (α 30) (α 33) (σ 27 6) (σ 27 7) p q (σ 58 11))) (qnF (qTb (α 24)) (α 28) (α 29) (α 31) (α 30) (α 33) (σ 27 6) (σ 27 7) p q (σ 58 11) / 64) (qsm (qhG b (qhF (α 35) (α 36) (α 37) (α 40) (qcv (α 41)) (qlw (α 22)) p q (σ 58 11))) (σ 34 7 : Int).toNat) (α 20 (p : Int).toNat) (α 20 (q : Int).toNat) (qbit (α 22 (p : Int).toNat) q) (qm9 (qTb (α 24) p q)) (qsm (qshF (α 18) p th) (σ 17 6 : Int).toNat) (if st = -1 then 0 else qm9 (qTb (α 24) p st))
theorem qNVc_fr {S : List (Nat × Nat)} {R : List Nat} {σ α σ' α' : Nat → Nat → Int} (hG : qFr S R σ α σ' α') (hs : [(17, 6), (27, 6), (27, 7), (34, 7), (58, 11)].all (fun x => !S.contains x) = true) (hr : [18, 20, 22, 24, 28, 29, 30, 31, 33, 35, 36, 37, 40, 41].all (fun x => !R.contains x) = true) : qNVc σ' α' = qNVc σ α := by
  have es : ∀ a k, (a, k) ∈ [(17, 6), (27, 6), (27, 7), (34, 7), (58, 11)] → σ' a k = σ a k := fun a k hm => hG.1 a k (fun hn => by
    have h1 := List.all_eq_true.mp hs (a, k) hm
    rw [List.contains_iff_mem.mpr hn] at h1
    exact absurd h1 (by decide))
  have er : ∀ a, a ∈ [18, 20, 22, 24, 28, 29, 30, 31, 33, 35, 36, 37, 40, 41] → α' a = α a := fun a hm => hG.2 a (fun hn => by
    have h1 := List.all_eq_true.mp hr a hm
    rw [List.contains_iff_mem.mpr hn] at h1
    exact absurd h1 (by decide))
  unfold qNVc
  rw [es 17 6 (by decide), es 27 6 (by decide), es 27 7 (by decide), es 34 7 (by decide), es 58 11 (by decide), er 18 (by decide), er 20 (by decide), er 22 (by decide), er 24 (by decide), er 28 (by decide), er 29 (by decide), er 30 (by decide), er 31 (by decide), er 33 (by decide), er 35 (by decide), er 36 (by decide), er 37 (by decide), er 40 (by decide), er 41 (by decide)]

set_option maxHeartbeats 4000000 in
set_option maxRecDepth 20000 in
/-- OneRoof$Custom.asks -/
theorem sf_91_50x {L : Nat} {xs : Nat → Int} {vb : Bool} {d : Nat} {σ α : Nat → Nat → Int} {κ : Nat → Option Nat} {ρ : Nat} {x1 : Int} (hI : qI σ α κ ρ) (r1 : 0 ≤ x1 ∧ x1 ≤ 8) : qm_T (qe L xs vb) (d + 2) 91 [.ref 50, .int (qz x1)] (qw σ α κ ρ) (fun r w' => w' = qw σ α κ ρ ∧ ∃ v : Int, r = some (.int (qz v)) ∧ (0 ≤ v ∧ v ≤ 1) ∧ v = qbi (σ 50 6) x1) := by
  refine qr_start (d := d + 1) qv_e91 (Nat.le_of_ble_eq_true rfl) ?_
  show qr_W (qe L xs vb) (d + 1) qx_e91 _ (0, [(0, .ref 50), (1, .int (qz x1))], [], _, 0, 0)
  have hz50_6 : (-2147483648) ≤ σ 50 6 ∧ σ 50 6 ≤ 2147483647 := hI.1 50 6
  refine qr_aload_n 1 rfl rfl rfl ?_
  refine qr_get 4 rfl rfl rfl (by decide) rfl ?_
  refine qr_i2l 5 rfl hz50_6 rfl ?_
  refine qr_iload_n 6 rfl rfl rfl ?_
  refine qr_callN 9 rfl rfl rfl (sf_50b (d := d + 0) hI (qrg hz50_6 (by decide) (by decide)) (qrg r1 (by decide) (by decide))) ?_
  rintro _ _ ⟨rfl, v1, rfl, hv1, hp2⟩
  show qr_W (qe L xs vb) (d + 1) qx_e91 _ (9, _, [.int (qz v1)], qw σ α κ ρ, 0, 0)
  refine qr_retZ rfl rfl (by omega) (by decide) (by decide) ?_
  exact ⟨rfl, v1, rfl, hv1, (by have hq := qbit_qbi (σ 50 6) (i := x1) (by omega); omega)⟩

set_option maxHeartbeats 4000000 in
set_option maxRecDepth 20000 in
/-- OneRoof$Custom.asks -/
theorem sf_91_54x {L : Nat} {xs : Nat → Int} {vb : Bool} {d : Nat} {σ α : Nat → Nat → Int} {κ : Nat → Option Nat} {ρ : Nat} {x1 : Int} (hI : qI σ α κ ρ) (r1 : 0 ≤ x1 ∧ x1 ≤ 8) : qm_T (qe L xs vb) (d + 2) 91 [.ref 54, .int (qz x1)] (qw σ α κ ρ) (fun r w' => w' = qw σ α κ ρ ∧ ∃ v : Int, r = some (.int (qz v)) ∧ (0 ≤ v ∧ v ≤ 1) ∧ v = qbi (σ 54 6) x1) := by
  refine qr_start (d := d + 1) qv_e91 (Nat.le_of_ble_eq_true rfl) ?_
  show qr_W (qe L xs vb) (d + 1) qx_e91 _ (0, [(0, .ref 54), (1, .int (qz x1))], [], _, 0, 0)
  have hz54_6 : (-2147483648) ≤ σ 54 6 ∧ σ 54 6 ≤ 2147483647 := hI.1 54 6
  refine qr_aload_n 1 rfl rfl rfl ?_
  refine qr_get 4 rfl rfl rfl (by decide) rfl ?_
  refine qr_i2l 5 rfl hz54_6 rfl ?_
  refine qr_iload_n 6 rfl rfl rfl ?_
  refine qr_callN 9 rfl rfl rfl (sf_50b (d := d + 0) hI (qrg hz54_6 (by decide) (by decide)) (qrg r1 (by decide) (by decide))) ?_
  rintro _ _ ⟨rfl, v1, rfl, hv1, hp2⟩
  show qr_W (qe L xs vb) (d + 1) qx_e91 _ (9, _, [.int (qz v1)], qw σ α κ ρ, 0, 0)
  refine qr_retZ rfl rfl (by omega) (by decide) (by decide) ?_
  exact ⟨rfl, v1, rfl, hv1, (by have hq := qbit_qbi (σ 54 6) (i := x1) (by omega); omega)⟩

set_option maxHeartbeats 4000000 in
set_option maxRecDepth 20000 in
/-- OneRoof$Custom.asks -/
theorem sf_91_82x {L : Nat} {xs : Nat → Int} {vb : Bool} {d : Nat} {σ α : Nat → Nat → Int} {κ : Nat → Option Nat} {ρ : Nat} {x1 : Int} (hI : qI σ α κ ρ) (r1 : 0 ≤ x1 ∧ x1 ≤ 8) : qm_T (qe L xs vb) (d + 2) 91 [.ref 82, .int (qz x1)] (qw σ α κ ρ) (fun r w' => w' = qw σ α κ ρ ∧ ∃ v : Int, r = some (.int (qz v)) ∧ (0 ≤ v ∧ v ≤ 1) ∧ v = qbi (σ 82 6) x1) := by
  refine qr_start (d := d + 1) qv_e91 (Nat.le_of_ble_eq_true rfl) ?_
  show qr_W (qe L xs vb) (d + 1) qx_e91 _ (0, [(0, .ref 82), (1, .int (qz x1))], [], _, 0, 0)
  have hz82_6 : (-2147483648) ≤ σ 82 6 ∧ σ 82 6 ≤ 2147483647 := hI.1 82 6
  refine qr_aload_n 1 rfl rfl rfl ?_
  refine qr_get 4 rfl rfl rfl (by decide) rfl ?_
  refine qr_i2l 5 rfl hz82_6 rfl ?_
  refine qr_iload_n 6 rfl rfl rfl ?_
  refine qr_callN 9 rfl rfl rfl (sf_50b (d := d + 0) hI (qrg hz82_6 (by decide) (by decide)) (qrg r1 (by decide) (by decide))) ?_
  rintro _ _ ⟨rfl, v1, rfl, hv1, hp2⟩
  show qr_W (qe L xs vb) (d + 1) qx_e91 _ (9, _, [.int (qz v1)], qw σ α κ ρ, 0, 0)
  refine qr_retZ rfl rfl (by omega) (by decide) (by decide) ?_
  exact ⟨rfl, v1, rfl, hv1, (by have hq := qbit_qbi (σ 82 6) (i := x1) (by omega); omega)⟩

set_option maxHeartbeats 4000000 in
set_option maxRecDepth 20000 in
/-- OneRoof$Folk.haveOneLord -/
theorem sf_96_17x {L : Nat} {xs : Nat → Int} {vb : Bool} {d : Nat} {σ α : Nat → Nat → Int} {κ : Nat → Option Nat} {ρ : Nat} {x1 : Int} {x2 : Int} (hI : qI σ α κ ρ) (r1 : 0 ≤ x1 ∧ x1 ≤ 31) (r2 : 0 ≤ x2 ∧ x2 ≤ 31) : qm_T (qe L xs vb) (d + 1) 96 [.ref 17, .int (qz x1), .int (qz x2)] (qw σ α κ ρ) (fun r w' => w' = qw σ α κ ρ ∧ ∃ v : Int, r = some (.int (qz v)) ∧ (0 ≤ v ∧ v ≤ 1) ∧ ((v = 1 ∧ (0 ≤ α 18 (x1 : Int).toNat ∧ α 18 (x1 : Int).toNat = α 18 (x2 : Int).toNat)) ∨ (v = 0 ∧ ¬ ((0 ≤ α 18 (x1 : Int).toNat ∧ α 18 (x1 : Int).toNat = α 18 (x2 : Int).toNat))))) := by
  refine qr_start (d := d + 0) qv_e96 (Nat.le_of_ble_eq_true rfl) ?_
  show qr_W (qe L xs vb) (d + 0) qx_e96 _ (0, [(0, .ref 17), (1, .int (qz x1)), (2, .int (qz x2))], [], _, 0, 0)
  refine qr_aload_n 1 rfl rfl rfl ?_
  refine qr_get 4 rfl rfl rfl (by decide) rfl ?_
  refine qr_iload_n 5 rfl rfl rfl ?_
  refine qr_iaload 6 rfl rfl (qrgi r1 (by decide) (by decide)) (by decide) rfl ?_
  refine qr_topI (fun v1 hv1 => ?_)
  have hs2 : (-1) ≤ v1 ∧ v1 ≤ 31 := by rw [hv1]; exact hI.2.1 18 _ (show _ < 32 from qrgt r1 (by decide) (by decide))
  refine qr_if_lt 28 9 rfl rfl rfl (qrg hs2 (by decide) (by decide)) (fun h3 => ?_) (fun h3 => ?_)
  · skip
    refine qr_iconst 29 rfl rfl ?_
    refine qr_retZ rfl rfl (Or.inl rfl) (by decide) (by decide) ?_
    exact ⟨rfl, 0, rfl, (by decide), by omega⟩
  · skip
    refine qr_aload_n 10 rfl rfl rfl ?_
    refine qr_get 13 rfl rfl rfl (by decide) rfl ?_
    refine qr_iload_n 14 rfl rfl rfl ?_
    refine qr_iaload 15 rfl rfl (qrgi r1 (by decide) (by decide)) (by decide) rfl ?_
    refine qr_topI (fun v4 hv4 => ?_)
    have hs5 : (-1) ≤ v4 ∧ v4 ≤ 31 := by rw [hv4]; exact hI.2.1 18 _ (show _ < 32 from qrgt r1 (by decide) (by decide))
    refine qr_aload_n 16 rfl rfl rfl ?_
    refine qr_get 19 rfl rfl rfl (by decide) rfl ?_
    refine qr_iload_n 20 rfl rfl rfl ?_
    refine qr_iaload 21 rfl rfl (qrgi r2 (by decide) (by decide)) (by decide) rfl ?_
    refine qr_topI (fun v6 hv6 => ?_)
    have hs7 : (-1) ≤ v6 ∧ v6 ≤ 31 := by rw [hv6]; exact hI.2.1 18 _ (show _ < 32 from qrgt r2 (by decide) (by decide))
    refine qr_icmp_ne 28 24 rfl rfl rfl (qrg hs5 (by decide) (by decide)) (qrg hs7 (by decide) (by decide)) (fun h8 => ?_) (fun h8 => ?_)
    · skip
      refine qr_iconst 29 rfl rfl ?_
      refine qr_retZ rfl rfl (Or.inl rfl) (by decide) (by decide) ?_
      exact ⟨rfl, 0, rfl, (by decide), by omega⟩
    · skip
      refine qr_iconst 25 rfl rfl ?_
      refine qr_goto 29 rfl rfl ?_
      refine qr_retZ rfl rfl (Or.inr rfl) (by decide) (by decide) ?_
      exact ⟨rfl, 1, rfl, (by decide), by omega⟩

set_option maxHeartbeats 4000000 in
set_option maxRecDepth 20000 in
/-- OneRoof$Folk.sharingLord -/
theorem sf_95_17x {L : Nat} {xs : Nat → Int} {vb : Bool} {d : Nat} {σ α : Nat → Nat → Int} {κ : Nat → Option Nat} {ρ : Nat} {x1 : Int} {x2 : Int} (hI : qI σ α κ ρ) (r1 : 0 ≤ x1 ∧ x1 ≤ 31) (r2 : (-9223372036854775808) ≤ x2 ∧ x2 ≤ 9223372036854775807) : qm_T (qe L xs vb) (d + 2) 95 [.ref 17, .int (qz x1), .long (ql x2)] (qw σ α κ ρ) (fun r w' => w' = qw σ α κ ρ ∧ ∃ v : Int, r = some (.int (qz v)) ∧ ((-2147483648) ≤ v ∧ v ≤ 2147483647) ∧ v = qsm (qshF (α 18) x1 x2) (σ 17 6 : Int).toNat) := by
  refine qr_start (d := d + 1) qv_e95 (Nat.le_of_ble_eq_true rfl) ?_
  show qr_W (qe L xs vb) (d + 1) qx_e95 _ (0, [(0, .ref 17), (1, .int (qz x1)), (2, .long (ql x2))], [], _, 0, 0)
  have hz17_6 : 0 ≤ σ 17 6 ∧ σ 17 6 ≤ 32 := hI.1 17 6
  refine qr_iconst 1 rfl rfl ?_
  refine qr_istore _ 3 rfl (by decide) rfl rfl ?_
  refine qr_iconst 4 rfl rfl ?_
  refine qr_istore _ 6 rfl (by decide) rfl rfl ?_
  have hL422 : ∀ (n : Nat) (ls : qm_L) (u415 u417 : Int), 32 - u417 < (n : Int) → qm_get ls 0 = some (.ref 17) → qm_get ls 1 = some (.int (qz x1)) → qm_get ls 2 = some (.long (ql x2)) → qm_get ls 4 = some (.int (qz u415)) → qm_get ls 5 = some (.int (qz u417)) → ((-2147483648) ≤ u415 ∧ u415 ≤ 2147483647) → (0 ≤ u417 ∧ u417 ≤ 32) → u415 = qsm (qshF (α 18) x1 x2) (u417 : Int).toNat → u417 ≤ σ 17 6 → qr_W (qe L xs vb) (d + 1) qx_e95 (fun r w' => w' = qw σ α κ ρ ∧ ∃ v : Int, r = some (.int (qz v)) ∧ ((-2147483648) ≤ v ∧ v ≤ 2147483647) ∧ v = qsm (qshF (α 18) x1 x2) (σ 17 6 : Int).toNat) (6, ls, [], qw σ α κ ρ, 0, 0) := by
    intro n
    induction n with
    | zero => intro ls u415 u417 hm g411 g412 g413 g414 g416 hf418 hf419 hx420 hx421; exact False.elim (by omega)
    | succ n ih423 =>
      intro ls u415 u417 hm g411 g412 g413 g414 g416 hf418 hf419 hx420 hx421
      refine qr_iload 8 rfl g416 rfl ?_
      refine qr_aload_n 9 rfl g411 rfl ?_
      refine qr_get 12 rfl rfl rfl (by decide) rfl ?_
      refine qr_icmp_ge 49 15 rfl rfl rfl (qrg hf419 (by decide) (by decide)) (qrg hz17_6 (by decide) (by decide)) (fun h424 => ?_) (fun h424 => ?_)
      · skip
        refine qr_iload 51 rfl g414 rfl ?_
        refine qr_retI rfl rfl (by decide) (by decide) ?_
        exact ⟨rfl, u415, rfl, hf418, (by rw [show (σ 17 6) = u417 by omega]; exact hx420)⟩
      · skip
        refine qr_lload_n 16 rfl g413 rfl ?_
        refine qr_iload 18 rfl g416 rfl ?_
        refine qr_callN 21 rfl rfl rfl (sf_50b (d := d + 0) hI r2 (qrg hf419 (by decide) (by decide))) ?_
        rintro _ _ ⟨rfl, v425, rfl, hv425, hp426⟩
        show qr_W (qe L xs vb) (d + 1) qx_e95 _ (21, _, [.int (qz v425)], qw σ α κ ρ, 0, 0)
        refine qr_if_eq 43 24 rfl rfl rfl (qrg hv425 (by decide) (by decide)) (fun h427 => ?_) (fun h427 => ?_)
        · skip
          refine qr_iinc _ 46 rfl g416 (by decide) rfl rfl ?_
          refine qr_goto 6 rfl rfl ?_
          exact ih423 _ u415 (u417 + 1) (by omega) (qm_gk g411 (by decide) (Or.inl (by decide))) (qm_gk g412 (by decide) (Or.inl (by decide))) (qm_gk g413 (by decide) (Or.inl (by decide))) (qm_gk g414 (by decide) (Or.inr rfl)) (qm_ge _ _ _) hf418 (by omega) (by have hq0 := qsm_s (qshF (α 18) x1 x2) (i := u417) (by omega); have hq1 := qshF_c (α 18) x1 x2 (i := u417) (by omega); have hq2 := qsm_01 (f := (qshF (α 18) x1 x2)) (fun k => qshF_01 (α 18) x1 x2 k) (u417 : Int).toNat; omega) (by omega)
        · skip
          refine qr_iload 26 rfl g416 rfl ?_
          refine qr_iload_n 27 rfl g412 rfl ?_
          refine qr_icmp_eq 40 30 rfl rfl rfl (qrg hf419 (by decide) (by decide)) (qrg r1 (by decide) (by decide)) (fun h428 => ?_) (fun h428 => ?_)
          · skip
            refine qy_iincE 43 rfl g414 (by decide) rfl (fun v429 hv429 hev429 => ?_)
            refine qr_iinc _ 46 rfl (qm_gk g416 (by decide) (Or.inl (by decide))) (by decide) rfl rfl ?_
            refine qr_goto 6 rfl rfl ?_
            exact ih423 _ v429 (u417 + 1) (by omega) (qm_gk (qm_gk g411 (by decide) (Or.inl (by decide))) (by decide) (Or.inl (by decide))) (qm_gk (qm_gk g412 (by decide) (Or.inl (by decide))) (by decide) (Or.inl (by decide))) (qm_gk (qm_gk g413 (by decide) (Or.inl (by decide))) (by decide) (Or.inl (by decide))) (qm_gk (qm_ge _ _ _) (by decide) (Or.inr rfl)) (qm_ge _ _ _) (by omega) (by omega) (by have hq0 := qsm_s (qshF (α 18) x1 x2) (i := u417) (by omega); have hq1 := qshF_c (α 18) x1 x2 (i := u417) (by omega); have hq2 := qsm_01 (f := (qshF (α 18) x1 x2)) (fun k => qshF_01 (α 18) x1 x2 k) (u417 : Int).toNat; have hq3 := qz_val hev429 (by omega) (by omega); omega) (by omega)
          · skip
            refine qr_aload_n 31 rfl g411 rfl ?_
            refine qr_iload 33 rfl g416 rfl ?_
            refine qr_iload_n 34 rfl g412 rfl ?_
            refine qr_callN 37 rfl rfl rfl (sf_96_17x (d := d + 0) hI (by omega) r1) ?_
            rintro _ _ ⟨rfl, v430, rfl, hv430, hp431⟩
            show qr_W (qe L xs vb) (d + 1) qx_e95 _ (37, _, [.int (qz v430)], qw σ α κ ρ, 0, 0)
            refine qr_if_eq 43 40 rfl rfl rfl (qrg hv430 (by decide) (by decide)) (fun h432 => ?_) (fun h432 => ?_)
            · skip
              refine qr_iinc _ 46 rfl g416 (by decide) rfl rfl ?_
              refine qr_goto 6 rfl rfl ?_
              exact ih423 _ u415 (u417 + 1) (by omega) (qm_gk g411 (by decide) (Or.inl (by decide))) (qm_gk g412 (by decide) (Or.inl (by decide))) (qm_gk g413 (by decide) (Or.inl (by decide))) (qm_gk g414 (by decide) (Or.inr rfl)) (qm_ge _ _ _) hf418 (by omega) (by have hq0 := qsm_s (qshF (α 18) x1 x2) (i := u417) (by omega); have hq1 := qshF_c (α 18) x1 x2 (i := u417) (by omega); have hq2 := qsm_01 (f := (qshF (α 18) x1 x2)) (fun k => qshF_01 (α 18) x1 x2 k) (u417 : Int).toNat; omega) (by omega)
            · skip
              refine qy_iincE 43 rfl g414 (by decide) rfl (fun v433 hv433 hev433 => ?_)
              refine qr_iinc _ 46 rfl (qm_gk g416 (by decide) (Or.inl (by decide))) (by decide) rfl rfl ?_
              refine qr_goto 6 rfl rfl ?_
              exact ih423 _ v433 (u417 + 1) (by omega) (qm_gk (qm_gk g411 (by decide) (Or.inl (by decide))) (by decide) (Or.inl (by decide))) (qm_gk (qm_gk g412 (by decide) (Or.inl (by decide))) (by decide) (Or.inl (by decide))) (qm_gk (qm_gk g413 (by decide) (Or.inl (by decide))) (by decide) (Or.inl (by decide))) (qm_gk (qm_ge _ _ _) (by decide) (Or.inr rfl)) (qm_ge _ _ _) (by omega) (by omega) (by have hq0 := qsm_s (qshF (α 18) x1 x2) (i := u417) (by omega); have hq1 := qshF_c (α 18) x1 x2 (i := u417) (by omega); have hq2 := qsm_01 (f := (qshF (α 18) x1 x2)) (fun k => qshF_01 (α 18) x1 x2 k) (u417 : Int).toNat; have hq3 := qz_val hev433 (by omega) (by omega); omega) (by omega)
  exact hL422 ((32 - 0 + 1 : Int)).toNat _ 0 0 (by omega) rfl rfl rfl rfl rfl (by decide) (by decide) rfl (by omega)

set_option maxHeartbeats 4000000 in
set_option maxRecDepth 20000 in
/-- OneRoof$Moment.weigh -/
theorem sf_90_58x {L : Nat} {xs : Nat → Int} {vb : Bool} {d : Nat} {σ α : Nat → Nat → Int} {κ : Nat → Option Nat} {ρ : Nat} {x1 : Int} {x2 : Int} {x3 : Int} {x4 : Int} {x5 : Int} {f : (Nat → Int) → Int} (hI : qI σ α κ ρ) (r1 : 0 ≤ x1 ∧ x1 ≤ 1) (r2 : 0 ≤ x2 ∧ x2 ≤ 31) (r3 : 0 ≤ x3 ∧ x3 ≤ 31) (r4 : (-1) ≤ x4 ∧ x4 ≤ 31) (r5 : (-9223372036854775808) ≤ x5 ∧ x5 ≤ 9223372036854775807) (p0 : ¬ x2 = x3) (p1 : qPW σ α κ (x1 : Int).toNat f) (p2 : qCaN (α 60) (α 61) (σ 58 12) (fun p q => qnF (qTb (α 24)) (α 28) (α 29) (α 31) (α 30) (α 33) (σ 27 6) (σ 27 7) p q (σ 58 11))) (p3 : qCaN (α 62) (α 63) (σ 58 12) (fun p q => qbs (qhF (α 35) (α 36) (α 37) (α 40) (qcv (α 41)) (qlw (α 22)) p q (σ 58 11)) (σ 34 7 : Int).toNat)) (p4 : qZp σ α) : qm_T (qe L xs vb) (d + 4) 90 [.ref 58, .int (qz x1), .int (qz x2), .int (qz x3), .int (qz x4), .long (ql x5)] (qw σ α κ ρ) (fun r w' => ∃ α', w' = qw σ α' κ ρ ∧ qI σ α' κ ρ ∧ qFr [] [53, 57, 59, 60, 61, 62, 63, 85] σ α σ α' ∧ ∃ v : Int, r = some (.int (qz v)) ∧ ((-2147483648) ≤ v ∧ v ≤ 2147483647) ∧ v = f (qNVc σ α (σ 58 10) x2 x3 x4 x5) ∧ qCaN (α' 60) (α' 61) (σ 58 12) (fun p q => qnF (qTb (α 24)) (α 28) (α 29) (α 31) (α 30) (α 33) (σ 27 6) (σ 27 7) p q (σ 58 11)) ∧ qCaN (α' 62) (α' 63) (σ 58 12) (fun p q => qbs (qhF (α 35) (α 36) (α 37) (α 40) (qcv (α 41)) (qlw (α 22)) p q (σ 58 11)) (σ 34 7 : Int).toNat)) := by
  refine qr_start (d := d + 3) qv_e90 (Nat.le_of_ble_eq_true rfl) ?_
  show qr_W (qe L xs vb) (d + 3) qx_e90 _ (0, [(0, .ref 58), (1, .int (qz x1)), (2, .int (qz x2)), (3, .int (qz x3)), (4, .int (qz x4)), (5, .long (ql x5))], [], _, 0, 0)
  have hF0 := qFr_rf [] [53, 57, 59, 60, 61, 62, 63, 85] σ α
  have hz58_12 : (-2147483648) ≤ σ 58 12 ∧ σ 58 12 ≤ 2147483647 := hI.1 58 12
  have hz27_6 : (-9223372036854775808) ≤ σ 27 6 ∧ σ 27 6 ≤ 9223372036854775807 := hI.1 27 6
  have hz27_7 : 0 ≤ σ 27 7 ∧ σ 27 7 ≤ 40 := hI.1 27 7
  have hz58_11 : (-2147483648) ≤ σ 58 11 ∧ σ 58 11 ≤ 2147483647 := hI.1 58 11
  have hz34_7 : 0 ≤ σ 34 7 ∧ σ 34 7 ≤ 60 := hI.1 34 7
  have hz58_10 : (-9223372036854775808) ≤ σ 58 10 ∧ σ 58 10 ≤ 9223372036854775807 := hI.1 58 10
  have hz17_6 : 0 ≤ σ 17 6 ∧ σ 17 6 ≤ 32 := hI.1 17 6
  refine qr_aload_n 1 rfl rfl rfl ?_
  refine qr_get 4 rfl rfl rfl (by decide) rfl ?_
  refine qr_iload_n 5 rfl rfl rfl ?_
  obtain ⟨c1, hc2, hq3⟩ := qI_k hI (y := x1) (by omega)
  refine qr_aaload 6 rfl (by decide) rfl (by omega) (by decide) hc2 rfl ?_
  rcases hq3 with rfl | rfl | rfl
  · skip
    obtain ⟨_, hY4, hD5, hC6⟩ := p1 50 hc2 (Or.inl rfl)
    refine qr_astore _ 8 rfl (by decide) rfl rfl ?_
    refine qr_aload 10 rfl rfl rfl ?_
    refine qr_iconst 11 rfl rfl ?_
    refine qr_callN 14 rfl rfl rfl (sf_91_50x (d := d + 1) hI (by decide)) ?_
    have hs9 : (-2147483648) ≤ σ 50 6 ∧ σ 50 6 ≤ 2147483647 := hI.1 50 6
    rintro _ _ ⟨rfl, v7, rfl, hv7, hp8⟩
    show qr_W (qe L xs vb) (d + 3) qx_e90 _ (14, _, [.int (qz v7)], qw σ α κ ρ, 0, 0)
    have hJ85 : ∀ (ls : qm_L) (α74 : Nat → Nat → Int), qm_get ls 0 = some (.ref 58) → qm_get ls 2 = some (.int (qz x2)) → qm_get ls 3 = some (.int (qz x3)) → qm_get ls 4 = some (.int (qz x4)) → qm_get ls 5 = some (.long (ql x5)) → qm_get ls 7 = some (.ref 50) → qI σ α74 κ ρ → qFr [] [53, 57, 59, 60, 61, 62, 63, 85] σ α σ α74 → α74 18 = (α 18) → α74 20 = (α 20) → α74 22 = (α 22) → α74 24 = (α 24) → qAs (σ 50 6) (α74 59) (qNVc σ α (σ 58 10) x2 x3 x4 x5) 0 → qAs (σ 50 6) (α74 59) (qNVc σ α (σ 58 10) x2 x3 x4 x5) 1 → qCaN (α74 60) (α74 61) (σ 58 12) (fun p q => qnF (qTb (α 24)) (α 28) (α 29) (α 31) (α 30) (α 33) (σ 27 6) (σ 27 7) p q (σ 58 11)) → qCaN (α74 62) (α74 63) (σ 58 12) (fun p q => qbs (qhF (α 35) (α 36) (α 37) (α 40) (qcv (α 41)) (qlw (α 22)) p q (σ 58 11)) (σ 34 7 : Int).toNat) → qr_W (qe L xs vb) (d + 3) qx_e90 (fun r w' => ∃ α', w' = qw σ α' κ ρ ∧ qI σ α' κ ρ ∧ qFr [] [53, 57, 59, 60, 61, 62, 63, 85] σ α σ α' ∧ ∃ v : Int, r = some (.int (qz v)) ∧ ((-2147483648) ≤ v ∧ v ≤ 2147483647) ∧ v = f (qNVc σ α (σ 58 10) x2 x3 x4 x5) ∧ qCaN (α' 60) (α' 61) (σ 58 12) (fun p q => qnF (qTb (α 24)) (α 28) (α 29) (α 31) (α 30) (α 33) (σ 27 6) (σ 27 7) p q (σ 58 11)) ∧ qCaN (α' 62) (α' 63) (σ 58 12) (fun p q => qbs (qhF (α 35) (α 36) (α 37) (α 40) (qcv (α 41)) (qlw (α 22)) p q (σ 58 11)) (σ 34 7 : Int).toNat)) (63, ls, [], qw σ α74 κ ρ, 0, 0) := by
      intro ls α74 g67 g68 g69 g70 g71 g72 hI75 hF76 hk77 hk78 hk79 hk80 hx81 hx82 hx83 hx84
      refine qr_aload 65 rfl g72 rfl ?_
      refine qr_iconst 66 rfl rfl ?_
      refine qr_callN 69 rfl rfl rfl (sf_91_50x (d := d + 1) hI75 (by decide)) ?_
      have hs88 : (-2147483648) ≤ σ 50 6 ∧ σ 50 6 ≤ 2147483647 := hI75.1 50 6
      rintro _ _ ⟨rfl, v86, rfl, hv86, hp87⟩
      show qr_W (qe L xs vb) (d + 3) qx_e90 _ (69, _, [.int (qz v86)], qw σ α74 κ ρ, 0, 0)
      have hJ124 : ∀ (ls : qm_L) (α112 : Nat → Nat → Int), qm_get ls 0 = some (.ref 58) → qm_get ls 2 = some (.int (qz x2)) → qm_get ls 3 = some (.int (qz x3)) → qm_get ls 4 = some (.int (qz x4)) → qm_get ls 5 = some (.long (ql x5)) → qm_get ls 7 = some (.ref 50) → qI σ α112 κ ρ → qFr [] [53, 57, 59, 60, 61, 62, 63, 85] σ α σ α112 → α112 18 = (α 18) → α112 20 = (α 20) → α112 22 = (α 22) → α112 24 = (α 24) → qAs (σ 50 6) (α112 59) (qNVc σ α (σ 58 10) x2 x3 x4 x5) 0 → qAs (σ 50 6) (α112 59) (qNVc σ α (σ 58 10) x2 x3 x4 x5) 1 → qAs (σ 50 6) (α112 59) (qNVc σ α (σ 58 10) x2 x3 x4 x5) 2 → qCaN (α112 60) (α112 61) (σ 58 12) (fun p q => qnF (qTb (α 24)) (α 28) (α 29) (α 31) (α 30) (α 33) (σ 27 6) (σ 27 7) p q (σ 58 11)) → qCaN (α112 62) (α112 63) (σ 58 12) (fun p q => qbs (qhF (α 35) (α 36) (α 37) (α 40) (qcv (α 41)) (qlw (α 22)) p q (σ 58 11)) (σ 34 7 : Int).toNat) → qr_W (qe L xs vb) (d + 3) qx_e90 (fun r w' => ∃ α', w' = qw σ α' κ ρ ∧ qI σ α' κ ρ ∧ qFr [] [53, 57, 59, 60, 61, 62, 63, 85] σ α σ α' ∧ ∃ v : Int, r = some (.int (qz v)) ∧ ((-2147483648) ≤ v ∧ v ≤ 2147483647) ∧ v = f (qNVc σ α (σ 58 10) x2 x3 x4 x5) ∧ qCaN (α' 60) (α' 61) (σ 58 12) (fun p q => qnF (qTb (α 24)) (α 28) (α 29) (α 31) (α 30) (α 33) (σ 27 6) (σ 27 7) p q (σ 58 11)) ∧ qCaN (α' 62) (α' 63) (σ 58 12) (fun p q => qbs (qhF (α 35) (α 36) (α 37) (α 40) (qcv (α 41)) (qlw (α 22)) p q (σ 58 11)) (σ 34 7 : Int).toNat)) (87, ls, [], qw σ α112 κ ρ, 0, 0) := by
        intro ls α112 g105 g106 g107 g108 g109 g110 hI113 hF114 hk115 hk116 hk117 hk118 hx119 hx120 hx121 hx122 hx123
        refine qr_aload 89 rfl g110 rfl ?_
        refine qr_bipush 91 rfl (by decide) rfl ?_
        refine qr_callN 94 rfl rfl rfl (sf_91_50x (d := d + 1) hI113 (by decide)) ?_
        have hs127 : (-2147483648) ≤ σ 50 6 ∧ σ 50 6 ≤ 2147483647 := hI113.1 50 6
        rintro _ _ ⟨rfl, v125, rfl, hv125, hp126⟩
        show qr_W (qe L xs vb) (d + 3) qx_e90 _ (94, _, [.int (qz v125)], qw σ α112 κ ρ, 0, 0)
        have hJ154 : ∀ (ls : qm_L) (α141 : Nat → Nat → Int), qm_get ls 0 = some (.ref 58) → qm_get ls 2 = some (.int (qz x2)) → qm_get ls 3 = some (.int (qz x3)) → qm_get ls 4 = some (.int (qz x4)) → qm_get ls 7 = some (.ref 50) → qI σ α141 κ ρ → qFr [] [53, 57, 59, 60, 61, 62, 63, 85] σ α σ α141 → α141 18 = (α 18) → α141 20 = (α 20) → α141 22 = (α 22) → α141 24 = (α 24) → qAs (σ 50 6) (α141 59) (qNVc σ α (σ 58 10) x2 x3 x4 x5) 0 → qAs (σ 50 6) (α141 59) (qNVc σ α (σ 58 10) x2 x3 x4 x5) 1 → qAs (σ 50 6) (α141 59) (qNVc σ α (σ 58 10) x2 x3 x4 x5) 2 → qAs (σ 50 6) (α141 59) (qNVc σ α (σ 58 10) x2 x3 x4 x5) 7 → qCaN (α141 60) (α141 61) (σ 58 12) (fun p q => qnF (qTb (α 24)) (α 28) (α 29) (α 31) (α 30) (α 33) (σ 27 6) (σ 27 7) p q (σ 58 11)) → qCaN (α141 62) (α141 63) (σ 58 12) (fun p q => qbs (qhF (α 35) (α 36) (α 37) (α 40) (qcv (α 41)) (qlw (α 22)) p q (σ 58 11)) (σ 34 7 : Int).toNat) → qr_W (qe L xs vb) (d + 3) qx_e90 (fun r w' => ∃ α', w' = qw σ α' κ ρ ∧ qI σ α' κ ρ ∧ qFr [] [53, 57, 59, 60, 61, 62, 63, 85] σ α σ α' ∧ ∃ v : Int, r = some (.int (qz v)) ∧ ((-2147483648) ≤ v ∧ v ≤ 2147483647) ∧ v = f (qNVc σ α (σ 58 10) x2 x3 x4 x5) ∧ qCaN (α' 60) (α' 61) (σ 58 12) (fun p q => qnF (qTb (α 24)) (α 28) (α 29) (α 31) (α 30) (α 33) (σ 27 6) (σ 27 7) p q (σ 58 11)) ∧ qCaN (α' 62) (α' 63) (σ 58 12) (fun p q => qbs (qhF (α 35) (α 36) (α 37) (α 40) (qcv (α 41)) (qlw (α 22)) p q (σ 58 11)) (σ 34 7 : Int).toNat)) (114, ls, [], qw σ α141 κ ρ, 0, 0) := by
          intro ls α141 g135 g136 g137 g138 g139 hI142 hF143 hk144 hk145 hk146 hk147 hx148 hx149 hx150 hx151 hx152 hx153
          refine qr_aload_n 115 rfl g135 rfl ?_
          refine qr_get 118 rfl rfl rfl (by decide) rfl ?_
          refine qr_iconst 119 rfl rfl ?_
          refine qr_aload_n 120 rfl g135 rfl ?_
          refine qr_get 123 rfl rfl rfl (by decide) rfl ?_
          refine qr_get 126 rfl rfl rfl (by decide) rfl ?_
          refine qr_iload_n 127 rfl g136 rfl ?_
          refine qr_iaload 128 rfl rfl (qrgi r2 (by decide) (by decide)) (by decide) rfl ?_
          refine qr_topI (fun v155 hv155 => ?_)
          have hs156 : (-2147483648) ≤ v155 ∧ v155 ≤ 2147483647 := by rw [hv155]; exact hI142.2.1 20 _ (show _ < 32 from qrgt r2 (by decide) (by decide))
          have hrv155 : v155 = (α 20) (x2 : Int).toNat := hv155.trans (congrFun hk145 _)
          refine qr_iastore 129 rfl (by decide) rfl (by decide) (by decide) rfl ?_
          refine qy_wA (qw_r α141 59 (qzu (α141 59) (3 : Int).toNat v155)) rfl (fun α157 e158 => ?_)
          have hI159 : qI σ α157 κ ρ := by rw [e158]; exact qI_r hI142 59 _ rfl (show (-2147483648) ≤ v155 ∧ v155 ≤ 2147483647 by omega)
          have hF160 : qFr [] [53, 57, 59, 60, 61, 62, 63, 85] σ α σ α157 := by rw [e158]; exact qFr_r hF143 59 _ (by decide)
          refine qr_aload_n 130 rfl g135 rfl ?_
          refine qr_get 133 rfl rfl rfl (by decide) rfl ?_
          refine qr_iconst 134 rfl rfl ?_
          refine qr_aload_n 135 rfl g135 rfl ?_
          refine qr_get 138 rfl rfl rfl (by decide) rfl ?_
          refine qr_get 141 rfl rfl rfl (by decide) rfl ?_
          refine qr_iload_n 142 rfl g137 rfl ?_
          refine qr_iaload 143 rfl rfl (qrgi r3 (by decide) (by decide)) (by decide) rfl ?_
          refine qr_topI (fun v161 hv161 => ?_)
          have hs162 : (-2147483648) ≤ v161 ∧ v161 ≤ 2147483647 := by rw [hv161]; exact hI159.2.1 20 _ (show _ < 32 from qrgt r3 (by decide) (by decide))
          have hrv161 : v161 = (α 20) (x3 : Int).toNat := hv161.trans (congrFun ((congrFun e158 20).trans ((qw_r_ne (by decide)).trans hk145)) _)
          refine qr_iastore 144 rfl (by decide) rfl (by decide) (by decide) rfl ?_
          refine qy_wA (qw_r α157 59 (qzu (α157 59) (4 : Int).toNat v161)) rfl (fun α163 e164 => ?_)
          have hI165 : qI σ α163 κ ρ := by rw [e164]; exact qI_r hI159 59 _ rfl (show (-2147483648) ≤ v161 ∧ v161 ≤ 2147483647 by omega)
          have hF166 : qFr [] [53, 57, 59, 60, 61, 62, 63, 85] σ α σ α163 := by rw [e164]; exact qFr_r hF160 59 _ (by decide)
          refine qr_aload_n 145 rfl g135 rfl ?_
          refine qr_get 148 rfl rfl rfl (by decide) rfl ?_
          refine qr_iconst 149 rfl rfl ?_
          refine qr_aload_n 150 rfl g135 rfl ?_
          refine qr_get 153 rfl rfl rfl (by decide) rfl ?_
          refine qr_get 156 rfl rfl rfl (by decide) rfl ?_
          refine qr_iload_n 157 rfl g136 rfl ?_
          refine qr_laload 158 rfl (by decide) rfl (qrgi r2 (by decide) (by decide)) (by decide) rfl ?_
          refine qr_topL (fun v167 hv167 => ?_)
          have hs168 : (-9223372036854775808) ≤ v167 ∧ v167 ≤ 9223372036854775807 := by rw [hv167]; exact hI165.2.1 22 _ (show _ < 32 from qrgt r2 (by decide) (by decide))
          have hrv167 : v167 = (α 22) (x2 : Int).toNat := hv167.trans (congrFun ((congrFun e164 22).trans ((qw_r_ne (by decide)).trans ((congrFun e158 22).trans ((qw_r_ne (by decide)).trans hk146)))) _)
          refine qr_iload_n 159 rfl g137 rfl ?_
          refine qr_callN 162 rfl rfl rfl (sf_50b (d := d + 2) hI165 hs168 (qrg r3 (by decide) (by decide))) ?_
          rintro _ _ ⟨rfl, v169, rfl, hv169, hp170⟩
          show qr_W (qe L xs vb) (d + 3) qx_e90 _ (162, _, [.int (qz v169), .int (qz 5), .ref 59], qw σ α163 κ ρ, 0, 0)
          have hJ179 : ∀ (ls : qm_L) (u176 : Int), qm_get ls 0 = some (.ref 58) → qm_get ls 2 = some (.int (qz x2)) → qm_get ls 3 = some (.int (qz x3)) → qm_get ls 4 = some (.int (qz x4)) → qm_get ls 7 = some (.ref 50) → (0 ≤ u176 ∧ u176 ≤ 1) → u176 = qbit (α 22 (x2 : Int).toNat) x3 → qr_W (qe L xs vb) (d + 3) qx_e90 (fun r w' => ∃ α', w' = qw σ α' κ ρ ∧ qI σ α' κ ρ ∧ qFr [] [53, 57, 59, 60, 61, 62, 63, 85] σ α σ α' ∧ ∃ v : Int, r = some (.int (qz v)) ∧ ((-2147483648) ≤ v ∧ v ≤ 2147483647) ∧ v = f (qNVc σ α (σ 58 10) x2 x3 x4 x5) ∧ qCaN (α' 60) (α' 61) (σ 58 12) (fun p q => qnF (qTb (α 24)) (α 28) (α 29) (α 31) (α 30) (α 33) (σ 27 6) (σ 27 7) p q (σ 58 11)) ∧ qCaN (α' 62) (α' 63) (σ 58 12) (fun p q => qbs (qhF (α 35) (α 36) (α 37) (α 40) (qcv (α 41)) (qlw (α 22)) p q (σ 58 11)) (σ 34 7 : Int).toNat)) (170, ls, [.int (qz u176), .int (qz 5), .ref 59], qw σ α163 κ ρ, 0, 0) := by
            intro ls u176 g171 g172 g173 g174 g175 hf177 hx178
            refine qr_iastore 171 rfl (by decide) rfl (by decide) (by decide) rfl ?_
            refine qy_wA (qw_r α163 59 (qzu (α163 59) (5 : Int).toNat u176)) rfl (fun α180 e181 => ?_)
            have hI182 : qI σ α180 κ ρ := by rw [e181]; exact qI_r hI165 59 _ rfl (show (-2147483648) ≤ u176 ∧ u176 ≤ 2147483647 by omega)
            have hF183 : qFr [] [53, 57, 59, 60, 61, 62, 63, 85] σ α σ α180 := by rw [e181]; exact qFr_r hF166 59 _ (by decide)
            refine qr_aload_n 172 rfl g171 rfl ?_
            refine qr_get 175 rfl rfl rfl (by decide) rfl ?_
            refine qr_bipush 177 rfl (by decide) rfl ?_
            refine qr_aload_n 178 rfl g171 rfl ?_
            refine qr_get 181 rfl rfl rfl (by decide) rfl ?_
            refine qr_iload_n 182 rfl g172 rfl ?_
            refine qr_iload_n 183 rfl g173 rfl ?_
            refine qr_callN 186 rfl rfl rfl (sf_57_23x (d := d + 2) hI182 r2 r3) ?_
            rintro _ _ ⟨rfl, v184, rfl, hv184, hp185⟩
            rw [hF183.2 24 (by decide)] at hp185
            show qr_W (qe L xs vb) (d + 3) qx_e90 _ (186, _, [.int (qz v184), .int (qz 6), .ref 59], qw σ α180 κ ρ, 0, 0)
            refine qr_bipush 188 rfl (by decide) rfl ?_
            refine qr_callN 191 rfl rfl rfl (sf_12 (d := d + 2) hI182 (qrg hv184 (by decide) (by decide)) (by decide)) ?_
            rintro _ _ ⟨rfl, v186, rfl, hv186, hp187⟩
            show qr_W (qe L xs vb) (d + 3) qx_e90 _ (191, _, [.int (qz v186), .int (qz 6), .ref 59], qw σ α180 κ ρ, 0, 0)
            refine qr_iastore 192 rfl (by decide) rfl (by decide) (by decide) rfl ?_
            refine qy_wA (qw_r α180 59 (qzu (α180 59) (6 : Int).toNat v186)) rfl (fun α188 e189 => ?_)
            have hI190 : qI σ α188 κ ρ := by rw [e189]; exact qI_r hI182 59 _ rfl (show (-2147483648) ≤ v186 ∧ v186 ≤ 2147483647 by omega)
            have hF191 : qFr [] [53, 57, 59, 60, 61, 62, 63, 85] σ α σ α188 := by rw [e189]; exact qFr_r hF183 59 _ (by decide)
            refine qr_aload_n 193 rfl g171 rfl ?_
            refine qr_get 196 rfl rfl rfl (by decide) rfl ?_
            refine qr_bipush 198 rfl (by decide) rfl ?_
            refine qr_iload 200 rfl g174 rfl ?_
            refine qr_iconst 201 rfl rfl ?_
            have hJ201 : ∀ (ls : qm_L) (u198 : Int), qm_get ls 0 = some (.ref 58) → qm_get ls 7 = some (.ref 50) → (0 ≤ u198 ∧ u198 ≤ 9) → u198 = (if x4 = -1 then 0 else qm9 (qTb (α 24) x2 x4)) → qr_W (qe L xs vb) (d + 3) qx_e90 (fun r w' => ∃ α', w' = qw σ α' κ ρ ∧ qI σ α' κ ρ ∧ qFr [] [53, 57, 59, 60, 61, 62, 63, 85] σ α σ α' ∧ ∃ v : Int, r = some (.int (qz v)) ∧ ((-2147483648) ≤ v ∧ v ≤ 2147483647) ∧ v = f (qNVc σ α (σ 58 10) x2 x3 x4 x5) ∧ qCaN (α' 60) (α' 61) (σ 58 12) (fun p q => qnF (qTb (α 24)) (α 28) (α 29) (α 31) (α 30) (α 33) (σ 27 6) (σ 27 7) p q (σ 58 11)) ∧ qCaN (α' 62) (α' 63) (σ 58 12) (fun p q => qbs (qhF (α 35) (α 36) (α 37) (α 40) (qcv (α 41)) (qlw (α 22)) p q (σ 58 11)) (σ 34 7 : Int).toNat)) (223, ls, [.int (qz u198), .int (qz 8), .ref 59], qw σ α188 κ ρ, 0, 0) := by
              intro ls u198 g196 g197 hf199 hx200
              refine qr_iastore 224 rfl (by decide) rfl (by decide) (by decide) rfl ?_
              refine qy_wA (qw_r α188 59 (qzu (α188 59) (8 : Int).toNat u198)) rfl (fun α202 e203 => ?_)
              have hI204 : qI σ α202 κ ρ := by rw [e203]; exact qI_r hI190 59 _ rfl (show (-2147483648) ≤ u198 ∧ u198 ≤ 2147483647 by omega)
              have hF205 : qFr [] [53, 57, 59, 60, 61, 62, 63, 85] σ α σ α202 := by rw [e203]; exact qFr_r hF191 59 _ (by decide)
              refine qr_aload 226 rfl g197 rfl ?_
              refine qr_aload_n 227 rfl g196 rfl ?_
              refine qr_get 230 rfl rfl rfl (by decide) rfl ?_
              have hs206 : 0 ≤ σ 50 5 ∧ σ 50 5 ≤ 122 := hI204.1 50 5
              refine qr_callN 233 rfl rfl rfl (sf_97_50_59x (d := d + 1) hI204 (fun k h1 h2 => by rw [hF205.2 52 (by decide)]; exact hC6 k h1 h2)) ?_
              rintro _ _ ⟨α209, rfl, hI210, hG211, v207, rfl, hv207, hx208⟩
              have hF212 : qFr [] [53, 57, 59, 60, 61, 62, 63, 85] σ α σ α209 := qFr_t hF205 hG211 (by decide) (by decide)
              rw [hF205.2 52 (by decide)] at hx208
              show qr_W (qe L xs vb) (d + 3) qx_e90 _ (233, _, [.int (qz v207)], qw σ α209 κ ρ, 0, 0)
              refine qr_retI rfl rfl (by decide) (by decide) ?_
              exact ⟨_, rfl, hI210, hF212, v207, rfl, hv207, (qwo_v hY4 hD5 hx208 (qAs_tr (congrFun ((congrFun e203 59).trans (qw_r_eq.trans (congrArg (fun f => qzu f (8 : Int).toNat u198) ((congrFun e189 59).trans (qw_r_eq.trans (congrArg (fun f => qzu f (6 : Int).toNat v186) ((congrFun e181 59).trans (qw_r_eq.trans (congrArg (fun f => qzu f (5 : Int).toNat u176) ((congrFun e164 59).trans (qw_r_eq.trans (congrArg (fun f => qzu f (4 : Int).toNat v161) ((congrFun e158 59).trans (qw_r_eq.trans (congrArg (fun f => qzu f (3 : Int).toNat v155) rfl))))))))))))))) _) hx148) (qAs_tr (congrFun ((congrFun e203 59).trans (qw_r_eq.trans (congrArg (fun f => qzu f (8 : Int).toNat u198) ((congrFun e189 59).trans (qw_r_eq.trans (congrArg (fun f => qzu f (6 : Int).toNat v186) ((congrFun e181 59).trans (qw_r_eq.trans (congrArg (fun f => qzu f (5 : Int).toNat u176) ((congrFun e164 59).trans (qw_r_eq.trans (congrArg (fun f => qzu f (4 : Int).toNat v161) ((congrFun e158 59).trans (qw_r_eq.trans (congrArg (fun f => qzu f (3 : Int).toNat v155) rfl))))))))))))))) _) hx149) (qAs_tr (congrFun ((congrFun e203 59).trans (qw_r_eq.trans (congrArg (fun f => qzu f (8 : Int).toNat u198) ((congrFun e189 59).trans (qw_r_eq.trans (congrArg (fun f => qzu f (6 : Int).toNat v186) ((congrFun e181 59).trans (qw_r_eq.trans (congrArg (fun f => qzu f (5 : Int).toNat u176) ((congrFun e164 59).trans (qw_r_eq.trans (congrArg (fun f => qzu f (4 : Int).toNat v161) ((congrFun e158 59).trans (qw_r_eq.trans (congrArg (fun f => qzu f (3 : Int).toNat v155) rfl))))))))))))))) _) hx150) (qAs_tr (congrFun ((congrFun e203 59).trans (qw_r_eq.trans (congrArg (fun f => qzu f (8 : Int).toNat u198) ((congrFun e189 59).trans (qw_r_eq.trans (congrArg (fun f => qzu f (6 : Int).toNat v186) ((congrFun e181 59).trans (qw_r_eq.trans (congrArg (fun f => qzu f (5 : Int).toNat u176) ((congrFun e164 59).trans (qw_r_eq.trans (congrArg (fun f => qzu f (4 : Int).toNat v161) ((congrFun e158 59).trans (qw_r_eq.trans (congrArg (fun f => qzu f (3 : Int).toNat v155) rfl))))))))))))))) _) hx151) ((congrFun ((congrFun e203 59).trans (qw_r_eq.trans (congrArg (fun f => qzu f (8 : Int).toNat u198) ((congrFun e189 59).trans (qw_r_eq.trans (congrArg (fun f => qzu f (6 : Int).toNat v186) ((congrFun e181 59).trans (qw_r_eq.trans (congrArg (fun f => qzu f (5 : Int).toNat u176) ((congrFun e164 59).trans (qw_r_eq.trans (congrArg (fun f => qzu f (4 : Int).toNat v161) ((congrFun e158 59).trans (qw_r_eq.trans (congrArg (fun f => qzu f (3 : Int).toNat v155) rfl))))))))))))))) _).trans hrv155) ((congrFun ((congrFun e203 59).trans (qw_r_eq.trans (congrArg (fun f => qzu f (8 : Int).toNat u198) ((congrFun e189 59).trans (qw_r_eq.trans (congrArg (fun f => qzu f (6 : Int).toNat v186) ((congrFun e181 59).trans (qw_r_eq.trans (congrArg (fun f => qzu f (5 : Int).toNat u176) ((congrFun e164 59).trans (qw_r_eq.trans (congrArg (fun f => qzu f (4 : Int).toNat v161) ((congrFun e158 59).trans (qw_r_eq.trans (congrArg (fun f => qzu f (3 : Int).toNat v155) rfl))))))))))))))) _).trans hrv161) ((congrFun ((congrFun e203 59).trans (qw_r_eq.trans (congrArg (fun f => qzu f (8 : Int).toNat u198) ((congrFun e189 59).trans (qw_r_eq.trans (congrArg (fun f => qzu f (6 : Int).toNat v186) ((congrFun e181 59).trans (qw_r_eq.trans (congrArg (fun f => qzu f (5 : Int).toNat u176) ((congrFun e164 59).trans (qw_r_eq.trans (congrArg (fun f => qzu f (4 : Int).toNat v161) ((congrFun e158 59).trans (qw_r_eq.trans (congrArg (fun f => qzu f (3 : Int).toNat v155) rfl))))))))))))))) _).trans hx178) ((congrFun ((congrFun e203 59).trans (qw_r_eq.trans (congrArg (fun f => qzu f (8 : Int).toNat u198) ((congrFun e189 59).trans (qw_r_eq.trans (congrArg (fun f => qzu f (6 : Int).toNat v186) ((congrFun e181 59).trans (qw_r_eq.trans (congrArg (fun f => qzu f (5 : Int).toNat u176) ((congrFun e164 59).trans (qw_r_eq.trans (congrArg (fun f => qzu f (4 : Int).toNat v161) ((congrFun e158 59).trans (qw_r_eq.trans (congrArg (fun f => qzu f (3 : Int).toNat v155) rfl))))))))))))))) _).trans (qm9_of hp185 hp187)) ((congrFun ((congrFun e203 59).trans (qw_r_eq.trans (congrArg (fun f => qzu f (8 : Int).toNat u198) ((congrFun e189 59).trans (qw_r_eq.trans (congrArg (fun f => qzu f (6 : Int).toNat v186) ((congrFun e181 59).trans (qw_r_eq.trans (congrArg (fun f => qzu f (5 : Int).toNat u176) ((congrFun e164 59).trans (qw_r_eq.trans (congrArg (fun f => qzu f (4 : Int).toNat v161) ((congrFun e158 59).trans (qw_r_eq.trans (congrArg (fun f => qzu f (3 : Int).toNat v155) rfl))))))))))))))) _).trans hx200)), (qCaN_c ((hG211.2 60 (by decide)).trans ((congrFun e203 60).trans ((qw_r_ne (by decide)).trans ((congrFun e189 60).trans ((qw_r_ne (by decide)).trans ((congrFun e181 60).trans ((qw_r_ne (by decide)).trans ((congrFun e164 60).trans ((qw_r_ne (by decide)).trans ((congrFun e158 60).trans ((qw_r_ne (by decide)).trans rfl))))))))))) ((hG211.2 61 (by decide)).trans ((congrFun e203 61).trans ((qw_r_ne (by decide)).trans ((congrFun e189 61).trans ((qw_r_ne (by decide)).trans ((congrFun e181 61).trans ((qw_r_ne (by decide)).trans ((congrFun e164 61).trans ((qw_r_ne (by decide)).trans ((congrFun e158 61).trans ((qw_r_ne (by decide)).trans rfl))))))))))) hx152), (qCaN_c ((hG211.2 62 (by decide)).trans ((congrFun e203 62).trans ((qw_r_ne (by decide)).trans ((congrFun e189 62).trans ((qw_r_ne (by decide)).trans ((congrFun e181 62).trans ((qw_r_ne (by decide)).trans ((congrFun e164 62).trans ((qw_r_ne (by decide)).trans ((congrFun e158 62).trans ((qw_r_ne (by decide)).trans rfl))))))))))) ((hG211.2 63 (by decide)).trans ((congrFun e203 63).trans ((qw_r_ne (by decide)).trans ((congrFun e189 63).trans ((qw_r_ne (by decide)).trans ((congrFun e181 63).trans ((qw_r_ne (by decide)).trans ((congrFun e164 63).trans ((qw_r_ne (by decide)).trans ((congrFun e158 63).trans ((qw_r_ne (by decide)).trans rfl))))))))))) hx153)⟩
            refine qr_icmp_ne 208 204 rfl rfl rfl (qrg r4 (by decide) (by decide)) (by decide) (fun h213 => ?_) (fun h213 => ?_)
            · skip
              refine qr_aload_n 209 rfl g171 rfl ?_
              refine qr_get 212 rfl rfl rfl (by decide) rfl ?_
              refine qr_iload_n 213 rfl g172 rfl ?_
              refine qr_iload 215 rfl g174 rfl ?_
              refine qr_callN 218 rfl rfl rfl (sf_57_23x (d := d + 2) hI190 r2 (by omega)) ?_
              rintro _ _ ⟨rfl, v214, rfl, hv214, hp215⟩
              rw [hF191.2 24 (by decide)] at hp215
              show qr_W (qe L xs vb) (d + 3) qx_e90 _ (218, _, [.int (qz v214), .int (qz 8), .ref 59], qw σ α188 κ ρ, 0, 0)
              refine qr_bipush 220 rfl (by decide) rfl ?_
              refine qr_callN 223 rfl rfl rfl (sf_12 (d := d + 2) hI190 (qrg hv214 (by decide) (by decide)) (by decide)) ?_
              rintro _ _ ⟨rfl, v216, rfl, hv216, hp217⟩
              show qr_W (qe L xs vb) (d + 3) qx_e90 _ (223, _, [.int (qz v216), .int (qz 8), .ref 59], qw σ α188 κ ρ, 0, 0)
              exact hJ201 _ v216 g171 g175 (by omega) (by rw [if_neg (by omega)]; exact qm9_of hp215 hp217)
            · skip
              refine qr_iconst 205 rfl rfl ?_
              refine qr_goto 223 rfl rfl ?_
              exact hJ201 _ 0 g171 g175 (by decide) (by rw [if_pos (by omega)])
          refine qr_if_eq 169 165 rfl rfl rfl (qrg hv169 (by decide) (by decide)) (fun h218 => ?_) (fun h218 => ?_)
          · skip
            refine qr_iconst 170 rfl rfl ?_
            exact hJ179 _ 0 g135 g136 g137 g138 g139 (by decide) (by have h1 := hp170; rw [hrv167] at h1; omega)
          · skip
            refine qr_iconst 166 rfl rfl ?_
            refine qr_goto 170 rfl rfl ?_
            exact hJ179 _ 1 g135 g136 g137 g138 g139 (by decide) (by have h1 := hp170; rw [hrv167] at h1; omega)
        refine qr_if_eq 114 97 rfl rfl rfl (qrg hv125 (by decide) (by decide)) (fun h219 => ?_) (fun h219 => ?_)
        · skip
          exact hJ154 _ α112 g105 g106 g107 g108 g110 hI113 hF114 hk115 hk116 hk117 hk118 (qAs_tr (congrFun rfl _) hx119) (qAs_tr (congrFun rfl _) hx120) (qAs_tr (congrFun rfl _) hx121) (qAs_no (by omega)) (qCaN_c rfl rfl hx122) (qCaN_c rfl rfl hx123)
        · skip
          refine qr_aload_n 98 rfl g105 rfl ?_
          refine qr_get 101 rfl rfl rfl (by decide) rfl ?_
          refine qr_bipush 103 rfl (by decide) rfl ?_
          refine qr_aload_n 104 rfl g105 rfl ?_
          refine qr_get 107 rfl rfl rfl (by decide) rfl ?_
          refine qr_iload_n 108 rfl g106 rfl ?_
          refine qr_lload 110 rfl g109 rfl ?_
          refine qr_callN 113 rfl rfl rfl (sf_95_17x (d := d + 1) hI113 r2 r5) ?_
          have hs222 : 0 ≤ σ 17 6 ∧ σ 17 6 ≤ 32 := hI113.1 17 6
          rintro _ _ ⟨rfl, v220, rfl, hv220, hp221⟩
          rw [hF114.2 18 (by decide)] at hp221
          show qr_W (qe L xs vb) (d + 3) qx_e90 _ (113, _, [.int (qz v220), .int (qz 7), .ref 59], qw σ α112 κ ρ, 0, 0)
          refine qr_iastore 114 rfl (by decide) rfl (by decide) (by decide) rfl ?_
          refine qy_wA (qw_r α112 59 (qzu (α112 59) (7 : Int).toNat v220)) rfl (fun α223 e224 => ?_)
          have hI225 : qI σ α223 κ ρ := by rw [e224]; exact qI_r hI113 59 _ rfl (show (-2147483648) ≤ v220 ∧ v220 ≤ 2147483647 by omega)
          have hF226 : qFr [] [53, 57, 59, 60, 61, 62, 63, 85] σ α σ α223 := by rw [e224]; exact qFr_r hF114 59 _ (by decide)
          exact hJ154 _ α223 g105 g106 g107 g108 g110 hI225 hF226 ((congrFun e224 18).trans ((qw_r_ne (by decide)).trans hk115)) ((congrFun e224 20).trans ((qw_r_ne (by decide)).trans hk116)) ((congrFun e224 22).trans ((qw_r_ne (by decide)).trans hk117)) ((congrFun e224 24).trans ((qw_r_ne (by decide)).trans hk118)) (qAs_tr (congrFun ((congrFun e224 59).trans (qw_r_eq.trans (congrArg (fun f => qzu f (7 : Int).toNat v220) rfl))) _) hx119) (qAs_tr (congrFun ((congrFun e224 59).trans (qw_r_eq.trans (congrArg (fun f => qzu f (7 : Int).toNat v220) rfl))) _) hx120) (qAs_tr (congrFun ((congrFun e224 59).trans (qw_r_eq.trans (congrArg (fun f => qzu f (7 : Int).toNat v220) rfl))) _) hx121) (qAs_yes ((congrFun ((congrFun e224 59).trans (qw_r_eq.trans (congrArg (fun f => qzu f (7 : Int).toNat v220) rfl))) _).trans hp221)) (qCaN_c ((congrFun e224 60).trans ((qw_r_ne (by decide)).trans rfl)) ((congrFun e224 61).trans ((qw_r_ne (by decide)).trans rfl)) hx122) (qCaN_c ((congrFun e224 62).trans ((qw_r_ne (by decide)).trans rfl)) ((congrFun e224 63).trans ((qw_r_ne (by decide)).trans rfl)) hx123)
      refine qr_if_eq 87 72 rfl rfl rfl (qrg hv86 (by decide) (by decide)) (fun h227 => ?_) (fun h227 => ?_)
      · skip
        exact hJ124 _ α74 g67 g68 g69 g70 g71 g72 hI75 hF76 hk77 hk78 hk79 hk80 (qAs_tr (congrFun rfl _) hx81) (qAs_tr (congrFun rfl _) hx82) (qAs_no (by omega)) (qCaN_c rfl rfl hx83) (qCaN_c rfl rfl hx84)
      · skip
        refine qr_aload_n 73 rfl g67 rfl ?_
        refine qr_get 76 rfl rfl rfl (by decide) rfl ?_
        refine qr_iconst 77 rfl rfl ?_
        refine qr_aload_n 78 rfl g67 rfl ?_
        refine qr_iload_n 79 rfl g68 rfl ?_
        refine qr_iload_n 80 rfl g69 rfl ?_
        have hs228 : 0 ≤ σ 34 7 ∧ σ 34 7 ≤ 60 := hI75.1 34 7
        have hs229 : (-2147483648) ≤ σ 58 11 ∧ σ 58 11 ≤ 2147483647 := hI75.1 58 11
        have hs230 : (-2147483648) ≤ σ 58 12 ∧ σ 58 12 ≤ 2147483647 := hI75.1 58 12
        refine qr_callN 83 rfl rfl rfl (sf_94_58x (d := d + 0) hI75 r2 r3 (by omega) (by rw [hF76.2 22 (by decide), hF76.2 35 (by decide), hF76.2 36 (by decide), hF76.2 37 (by decide), hF76.2 40 (by decide), hF76.2 41 (by decide)]; exact (qCaN_c rfl rfl hx84)) (qZp_fr hF76 (by decide) (by decide) p4)) ?_
        rintro _ _ ⟨α234, rfl, hI235, hG236, v231, rfl, hv231, hx232, hx233⟩
        have hF237 : qFr [] [53, 57, 59, 60, 61, 62, 63, 85] σ α σ α234 := qFr_t hF76 hG236 (by decide) (by decide)
        rw [hF76.2 22 (by decide), hF76.2 35 (by decide), hF76.2 36 (by decide), hF76.2 37 (by decide), hF76.2 40 (by decide), hF76.2 41 (by decide)] at hx232
        rw [hF76.2 22 (by decide), hF76.2 35 (by decide), hF76.2 36 (by decide), hF76.2 37 (by decide), hF76.2 40 (by decide), hF76.2 41 (by decide)] at hx233
        show qr_W (qe L xs vb) (d + 3) qx_e90 _ (83, _, [.long (ql v231), .int (qz 2), .ref 59], qw σ α234 κ ρ, 0, 0)
        refine qr_callN 86 rfl rfl rfl (sf_74c (d := d + 2) hI235 hv231) ?_
        rintro _ _ ⟨rfl, v238, rfl, hv238, hp239⟩
        show qr_W (qe L xs vb) (d + 3) qx_e90 _ (86, _, [.int (qz v238), .int (qz 2), .ref 59], qw σ α234 κ ρ, 0, 0)
        refine qr_iastore 87 rfl (by decide) rfl (by decide) (by decide) rfl ?_
        refine qy_wA (qw_r α234 59 (qzu (α234 59) (2 : Int).toNat v238)) rfl (fun α240 e241 => ?_)
        have hI242 : qI σ α240 κ ρ := by rw [e241]; exact qI_r hI235 59 _ rfl (show (-2147483648) ≤ v238 ∧ v238 ≤ 2147483647 by omega)
        have hF243 : qFr [] [53, 57, 59, 60, 61, 62, 63, 85] σ α σ α240 := by rw [e241]; exact qFr_r hF237 59 _ (by decide)
        exact hJ124 _ α240 g67 g68 g69 g70 g71 g72 hI242 hF243 ((congrFun e241 18).trans ((qw_r_ne (by decide)).trans ((hG236.2 18 (by decide)).trans hk77))) ((congrFun e241 20).trans ((qw_r_ne (by decide)).trans ((hG236.2 20 (by decide)).trans hk78))) ((congrFun e241 22).trans ((qw_r_ne (by decide)).trans ((hG236.2 22 (by decide)).trans hk79))) ((congrFun e241 24).trans ((qw_r_ne (by decide)).trans ((hG236.2 24 (by decide)).trans hk80))) (qAs_tr (congrFun ((congrFun e241 59).trans (qw_r_eq.trans (congrArg (fun f => qzu f (2 : Int).toNat v238) ((hG236.2 59 (by decide)).trans rfl)))) _) hx81) (qAs_tr (congrFun ((congrFun e241 59).trans (qw_r_eq.trans (congrArg (fun f => qzu f (2 : Int).toNat v238) ((hG236.2 59 (by decide)).trans rfl)))) _) hx82) (qAs_yes ((congrFun ((congrFun e241 59).trans (qw_r_eq.trans (congrArg (fun f => qzu f (2 : Int).toNat v238) ((hG236.2 59 (by decide)).trans rfl)))) _).trans (by rw [hp239, hx232]; exact qhd_cn (fun k => qho_01 _ _ _ _ _ _ _ _ _ _ _) (by omega) _))) (qCaN_c ((congrFun e241 60).trans ((qw_r_ne (by decide)).trans ((hG236.2 60 (by decide)).trans rfl))) ((congrFun e241 61).trans ((qw_r_ne (by decide)).trans ((hG236.2 61 (by decide)).trans rfl))) hx83) (qCaN_c ((congrFun e241 62).trans ((qw_r_ne (by decide)).trans rfl)) ((congrFun e241 63).trans ((qw_r_ne (by decide)).trans rfl)) hx233)
    refine qr_if_ne 26 17 rfl rfl rfl (qrg hv7 (by decide) (by decide)) (fun h244 => ?_) (fun h244 => ?_)
    · skip
      refine qr_aload_n 27 rfl rfl rfl ?_
      refine qr_iload_n 28 rfl rfl rfl ?_
      refine qr_iload_n 29 rfl rfl rfl ?_
      have hs245 : (-9223372036854775808) ≤ σ 27 6 ∧ σ 27 6 ≤ 9223372036854775807 := hI.1 27 6
      have hs246 : 0 ≤ σ 27 7 ∧ σ 27 7 ≤ 40 := hI.1 27 7
      have hs247 : (-2147483648) ≤ σ 58 11 ∧ σ 58 11 ≤ 2147483647 := hI.1 58 11
      have hs248 : (-2147483648) ≤ σ 58 12 ∧ σ 58 12 ≤ 2147483647 := hI.1 58 12
      refine qr_callN 32 rfl rfl rfl (sf_92_58x (d := d + 0) hI r2 r3 (by omega) (qCaN_c rfl rfl p2)) ?_
      rintro _ _ ⟨α252, rfl, hI253, hG254, v249, rfl, hv249, hx250, hx251⟩
      have hF255 : qFr [] [53, 57, 59, 60, 61, 62, 63, 85] σ α σ α252 := qFr_t hF0 hG254 (by decide) (by decide)
      show qr_W (qe L xs vb) (d + 3) qx_e90 _ (32, _, [.int (qz v249)], qw σ α252 κ ρ, 0, 0)
      refine qr_bipush 34 rfl (by decide) rfl ?_
      refine qr_idiv 35 rfl (qrg hv249 (by decide) (by decide)) (by decide) rfl ?_
      refine qr_istore _ 37 rfl (by decide) rfl rfl ?_
      refine qr_aload_n 38 rfl rfl rfl ?_
      refine qr_get 41 rfl rfl rfl (by decide) rfl ?_
      refine qr_iconst 42 rfl rfl ?_
      refine qr_iload 44 rfl rfl rfl ?_
      refine qr_bipush 46 rfl (by decide) rfl ?_
      have hJ266 : ∀ (ls : qm_L) (u263 : Int), qm_get ls 0 = some (.ref 58) → qm_get ls 2 = some (.int (qz x2)) → qm_get ls 3 = some (.int (qz x3)) → qm_get ls 4 = some (.int (qz x4)) → qm_get ls 5 = some (.long (ql x5)) → qm_get ls 7 = some (.ref 50) → qm_get ls 8 = some (.int (qz (v249 / 64))) → (0 ≤ u263 ∧ u263 ≤ 1) → u263 = qnF1 (qnF (qTb (α 24)) (α 28) (α 29) (α 31) (α 30) (α 33) (σ 27 6) (σ 27 7) x2 x3 (σ 58 11)) → qr_W (qe L xs vb) (d + 3) qx_e90 (fun r w' => ∃ α', w' = qw σ α' κ ρ ∧ qI σ α' κ ρ ∧ qFr [] [53, 57, 59, 60, 61, 62, 63, 85] σ α σ α' ∧ ∃ v : Int, r = some (.int (qz v)) ∧ ((-2147483648) ≤ v ∧ v ≤ 2147483647) ∧ v = f (qNVc σ α (σ 58 10) x2 x3 x4 x5) ∧ qCaN (α' 60) (α' 61) (σ 58 12) (fun p q => qnF (qTb (α 24)) (α 28) (α 29) (α 31) (α 30) (α 33) (σ 27 6) (σ 27 7) p q (σ 58 11)) ∧ qCaN (α' 62) (α' 63) (σ 58 12) (fun p q => qbs (qhF (α 35) (α 36) (α 37) (α 40) (qcv (α 41)) (qlw (α 22)) p q (σ 58 11)) (σ 34 7 : Int).toNat)) (54, ls, [.int (qz u263), .int (qz 0), .ref 59], qw σ α252 κ ρ, 0, 0) := by
        intro ls u263 g256 g257 g258 g259 g260 g261 g262 hf264 hx265
        refine qr_iastore 55 rfl (by decide) rfl (by decide) (by decide) rfl ?_
        refine qy_wA (qw_r α252 59 (qzu (α252 59) (0 : Int).toNat u263)) rfl (fun α267 e268 => ?_)
        have hI269 : qI σ α267 κ ρ := by rw [e268]; exact qI_r hI253 59 _ rfl (show (-2147483648) ≤ u263 ∧ u263 ≤ 2147483647 by omega)
        have hF270 : qFr [] [53, 57, 59, 60, 61, 62, 63, 85] σ α σ α267 := by rw [e268]; exact qFr_r hF255 59 _ (by decide)
        refine qr_aload_n 56 rfl g256 rfl ?_
        refine qr_get 59 rfl rfl rfl (by decide) rfl ?_
        refine qr_iconst 60 rfl rfl ?_
        refine qr_iload 62 rfl g262 rfl ?_
        refine qr_iastore 63 rfl (by decide) rfl (by decide) (by decide) rfl ?_
        refine qy_wA (qw_r α267 59 (qzu (α267 59) (1 : Int).toNat (v249 / 64))) rfl (fun α271 e272 => ?_)
        have hI273 : qI σ α271 κ ρ := by rw [e272]; exact qI_r hI269 59 _ rfl (show (-2147483648) ≤ (v249 / 64) ∧ (v249 / 64) ≤ 2147483647 by omega)
        have hF274 : qFr [] [53, 57, 59, 60, 61, 62, 63, 85] σ α σ α271 := by rw [e272]; exact qFr_r hF270 59 _ (by decide)
        exact hJ85 _ α271 g256 g257 g258 g259 g260 g261 hI273 hF274 ((congrFun e272 18).trans ((qw_r_ne (by decide)).trans ((congrFun e268 18).trans ((qw_r_ne (by decide)).trans ((hG254.2 18 (by decide)).trans rfl))))) ((congrFun e272 20).trans ((qw_r_ne (by decide)).trans ((congrFun e268 20).trans ((qw_r_ne (by decide)).trans ((hG254.2 20 (by decide)).trans rfl))))) ((congrFun e272 22).trans ((qw_r_ne (by decide)).trans ((congrFun e268 22).trans ((qw_r_ne (by decide)).trans ((hG254.2 22 (by decide)).trans rfl))))) ((congrFun e272 24).trans ((qw_r_ne (by decide)).trans ((congrFun e268 24).trans ((qw_r_ne (by decide)).trans ((hG254.2 24 (by decide)).trans rfl))))) (qAs_yes ((congrFun ((congrFun e272 59).trans (qw_r_eq.trans (congrArg (fun f => qzu f (1 : Int).toNat (v249 / 64)) ((congrFun e268 59).trans (qw_r_eq.trans (congrArg (fun f => qzu f (0 : Int).toNat u263) ((hG254.2 59 (by decide)).trans rfl))))))) _).trans hx265)) (qAs_yes ((congrFun ((congrFun e272 59).trans (qw_r_eq.trans (congrArg (fun f => qzu f (1 : Int).toNat (v249 / 64)) ((congrFun e268 59).trans (qw_r_eq.trans (congrArg (fun f => qzu f (0 : Int).toNat u263) ((hG254.2 59 (by decide)).trans rfl))))))) _).trans (congrArg (fun t : Int => t / 64) hx250))) (qCaN_c ((congrFun e272 60).trans ((qw_r_ne (by decide)).trans ((congrFun e268 60).trans ((qw_r_ne (by decide)).trans rfl)))) ((congrFun e272 61).trans ((qw_r_ne (by decide)).trans ((congrFun e268 61).trans ((qw_r_ne (by decide)).trans rfl)))) hx251) (qCaN_c ((congrFun e272 62).trans ((qw_r_ne (by decide)).trans ((congrFun e268 62).trans ((qw_r_ne (by decide)).trans ((hG254.2 62 (by decide)).trans rfl))))) ((congrFun e272 63).trans ((qw_r_ne (by decide)).trans ((congrFun e268 63).trans ((qw_r_ne (by decide)).trans ((hG254.2 63 (by decide)).trans rfl))))) p3)
      refine qr_icmp_ge 53 49 rfl rfl rfl (by omega) (by decide) (fun h275 => ?_) (fun h275 => ?_)
      · skip
        refine qr_iconst 54 rfl rfl ?_
        exact hJ266 _ 0 rfl rfl rfl rfl rfl rfl rfl (by decide) (by rw [← hx250]; unfold qnF1; rw [if_neg (by omega)])
      · skip
        refine qr_iconst 50 rfl rfl ?_
        refine qr_goto 54 rfl rfl ?_
        exact hJ266 _ 1 rfl rfl rfl rfl rfl rfl rfl (by decide) (by rw [← hx250]; unfold qnF1; rw [if_pos (by omega)])
    · skip
      refine qr_aload 19 rfl rfl rfl ?_
      refine qr_iconst 20 rfl rfl ?_
      refine qr_callN 23 rfl rfl rfl (sf_91_50x (d := d + 1) hI (by decide)) ?_
      have hs278 : (-2147483648) ≤ σ 50 6 ∧ σ 50 6 ≤ 2147483647 := hI.1 50 6
      rintro _ _ ⟨rfl, v276, rfl, hv276, hp277⟩
      show qr_W (qe L xs vb) (d + 3) qx_e90 _ (23, _, [.int (qz v276)], qw σ α κ ρ, 0, 0)
      refine qr_if_eq 63 26 rfl rfl rfl (qrg hv276 (by decide) (by decide)) (fun h279 => ?_) (fun h279 => ?_)
      · skip
        exact hJ85 _ α rfl rfl rfl rfl rfl rfl hI hF0 rfl rfl rfl rfl (qAs_no (by omega)) (qAs_no (by omega)) (qCaN_c rfl rfl p2) (qCaN_c rfl rfl p3)
      · skip
        refine qr_aload_n 27 rfl rfl rfl ?_
        refine qr_iload_n 28 rfl rfl rfl ?_
        refine qr_iload_n 29 rfl rfl rfl ?_
        have hs280 : (-9223372036854775808) ≤ σ 27 6 ∧ σ 27 6 ≤ 9223372036854775807 := hI.1 27 6
        have hs281 : 0 ≤ σ 27 7 ∧ σ 27 7 ≤ 40 := hI.1 27 7
        have hs282 : (-2147483648) ≤ σ 58 11 ∧ σ 58 11 ≤ 2147483647 := hI.1 58 11
        have hs283 : (-2147483648) ≤ σ 58 12 ∧ σ 58 12 ≤ 2147483647 := hI.1 58 12
        refine qr_callN 32 rfl rfl rfl (sf_92_58x (d := d + 0) hI r2 r3 (by omega) (qCaN_c rfl rfl p2)) ?_
        rintro _ _ ⟨α287, rfl, hI288, hG289, v284, rfl, hv284, hx285, hx286⟩
        have hF290 : qFr [] [53, 57, 59, 60, 61, 62, 63, 85] σ α σ α287 := qFr_t hF0 hG289 (by decide) (by decide)
        show qr_W (qe L xs vb) (d + 3) qx_e90 _ (32, _, [.int (qz v284)], qw σ α287 κ ρ, 0, 0)
        refine qr_bipush 34 rfl (by decide) rfl ?_
        refine qr_idiv 35 rfl (qrg hv284 (by decide) (by decide)) (by decide) rfl ?_
        refine qr_istore _ 37 rfl (by decide) rfl rfl ?_
        refine qr_aload_n 38 rfl rfl rfl ?_
        refine qr_get 41 rfl rfl rfl (by decide) rfl ?_
        refine qr_iconst 42 rfl rfl ?_
        refine qr_iload 44 rfl rfl rfl ?_
        refine qr_bipush 46 rfl (by decide) rfl ?_
        have hJ301 : ∀ (ls : qm_L) (u298 : Int), qm_get ls 0 = some (.ref 58) → qm_get ls 2 = some (.int (qz x2)) → qm_get ls 3 = some (.int (qz x3)) → qm_get ls 4 = some (.int (qz x4)) → qm_get ls 5 = some (.long (ql x5)) → qm_get ls 7 = some (.ref 50) → qm_get ls 8 = some (.int (qz (v284 / 64))) → (0 ≤ u298 ∧ u298 ≤ 1) → u298 = qnF1 (qnF (qTb (α 24)) (α 28) (α 29) (α 31) (α 30) (α 33) (σ 27 6) (σ 27 7) x2 x3 (σ 58 11)) → qr_W (qe L xs vb) (d + 3) qx_e90 (fun r w' => ∃ α', w' = qw σ α' κ ρ ∧ qI σ α' κ ρ ∧ qFr [] [53, 57, 59, 60, 61, 62, 63, 85] σ α σ α' ∧ ∃ v : Int, r = some (.int (qz v)) ∧ ((-2147483648) ≤ v ∧ v ≤ 2147483647) ∧ v = f (qNVc σ α (σ 58 10) x2 x3 x4 x5) ∧ qCaN (α' 60) (α' 61) (σ 58 12) (fun p q => qnF (qTb (α 24)) (α 28) (α 29) (α 31) (α 30) (α 33) (σ 27 6) (σ 27 7) p q (σ 58 11)) ∧ qCaN (α' 62) (α' 63) (σ 58 12) (fun p q => qbs (qhF (α 35) (α 36) (α 37) (α 40) (qcv (α 41)) (qlw (α 22)) p q (σ 58 11)) (σ 34 7 : Int).toNat)) (54, ls, [.int (qz u298), .int (qz 0), .ref 59], qw σ α287 κ ρ, 0, 0) := by
          intro ls u298 g291 g292 g293 g294 g295 g296 g297 hf299 hx300
          refine qr_iastore 55 rfl (by decide) rfl (by decide) (by decide) rfl ?_
          refine qy_wA (qw_r α287 59 (qzu (α287 59) (0 : Int).toNat u298)) rfl (fun α302 e303 => ?_)
          have hI304 : qI σ α302 κ ρ := by rw [e303]; exact qI_r hI288 59 _ rfl (show (-2147483648) ≤ u298 ∧ u298 ≤ 2147483647 by omega)
          have hF305 : qFr [] [53, 57, 59, 60, 61, 62, 63, 85] σ α σ α302 := by rw [e303]; exact qFr_r hF290 59 _ (by decide)
          refine qr_aload_n 56 rfl g291 rfl ?_
          refine qr_get 59 rfl rfl rfl (by decide) rfl ?_
          refine qr_iconst 60 rfl rfl ?_
          refine qr_iload 62 rfl g297 rfl ?_
          refine qr_iastore 63 rfl (by decide) rfl (by decide) (by decide) rfl ?_
          refine qy_wA (qw_r α302 59 (qzu (α302 59) (1 : Int).toNat (v284 / 64))) rfl (fun α306 e307 => ?_)
          have hI308 : qI σ α306 κ ρ := by rw [e307]; exact qI_r hI304 59 _ rfl (show (-2147483648) ≤ (v284 / 64) ∧ (v284 / 64) ≤ 2147483647 by omega)
          have hF309 : qFr [] [53, 57, 59, 60, 61, 62, 63, 85] σ α σ α306 := by rw [e307]; exact qFr_r hF305 59 _ (by decide)
          exact hJ85 _ α306 g291 g292 g293 g294 g295 g296 hI308 hF309 ((congrFun e307 18).trans ((qw_r_ne (by decide)).trans ((congrFun e303 18).trans ((qw_r_ne (by decide)).trans ((hG289.2 18 (by decide)).trans rfl))))) ((congrFun e307 20).trans ((qw_r_ne (by decide)).trans ((congrFun e303 20).trans ((qw_r_ne (by decide)).trans ((hG289.2 20 (by decide)).trans rfl))))) ((congrFun e307 22).trans ((qw_r_ne (by decide)).trans ((congrFun e303 22).trans ((qw_r_ne (by decide)).trans ((hG289.2 22 (by decide)).trans rfl))))) ((congrFun e307 24).trans ((qw_r_ne (by decide)).trans ((congrFun e303 24).trans ((qw_r_ne (by decide)).trans ((hG289.2 24 (by decide)).trans rfl))))) (qAs_yes ((congrFun ((congrFun e307 59).trans (qw_r_eq.trans (congrArg (fun f => qzu f (1 : Int).toNat (v284 / 64)) ((congrFun e303 59).trans (qw_r_eq.trans (congrArg (fun f => qzu f (0 : Int).toNat u298) ((hG289.2 59 (by decide)).trans rfl))))))) _).trans hx300)) (qAs_yes ((congrFun ((congrFun e307 59).trans (qw_r_eq.trans (congrArg (fun f => qzu f (1 : Int).toNat (v284 / 64)) ((congrFun e303 59).trans (qw_r_eq.trans (congrArg (fun f => qzu f (0 : Int).toNat u298) ((hG289.2 59 (by decide)).trans rfl))))))) _).trans (congrArg (fun t : Int => t / 64) hx285))) (qCaN_c ((congrFun e307 60).trans ((qw_r_ne (by decide)).trans ((congrFun e303 60).trans ((qw_r_ne (by decide)).trans rfl)))) ((congrFun e307 61).trans ((qw_r_ne (by decide)).trans ((congrFun e303 61).trans ((qw_r_ne (by decide)).trans rfl)))) hx286) (qCaN_c ((congrFun e307 62).trans ((qw_r_ne (by decide)).trans ((congrFun e303 62).trans ((qw_r_ne (by decide)).trans ((hG289.2 62 (by decide)).trans rfl))))) ((congrFun e307 63).trans ((qw_r_ne (by decide)).trans ((congrFun e303 63).trans ((qw_r_ne (by decide)).trans ((hG289.2 63 (by decide)).trans rfl))))) p3)
        refine qr_icmp_ge 53 49 rfl rfl rfl (by omega) (by decide) (fun h310 => ?_) (fun h310 => ?_)
        · skip
          refine qr_iconst 54 rfl rfl ?_
          exact hJ301 _ 0 rfl rfl rfl rfl rfl rfl rfl (by decide) (by rw [← hx285]; unfold qnF1; rw [if_neg (by omega)])
        · skip
          refine qr_iconst 50 rfl rfl ?_
          refine qr_goto 54 rfl rfl ?_
          exact hJ301 _ 1 rfl rfl rfl rfl rfl rfl rfl (by decide) (by rw [← hx285]; unfold qnF1; rw [if_pos (by omega)])
  · skip
    obtain ⟨_, hY311, hD312, hC313⟩ := p1 54 hc2 (Or.inr (Or.inl rfl))
    refine qr_astore _ 8 rfl (by decide) rfl rfl ?_
    refine qr_aload 10 rfl rfl rfl ?_
    refine qr_iconst 11 rfl rfl ?_
    refine qr_callN 14 rfl rfl rfl (sf_91_54x (d := d + 1) hI (by decide)) ?_
    have hs316 : (-2147483648) ≤ σ 54 6 ∧ σ 54 6 ≤ 2147483647 := hI.1 54 6
    rintro _ _ ⟨rfl, v314, rfl, hv314, hp315⟩
    show qr_W (qe L xs vb) (d + 3) qx_e90 _ (14, _, [.int (qz v314)], qw σ α κ ρ, 0, 0)
    have hJ392 : ∀ (ls : qm_L) (α381 : Nat → Nat → Int), qm_get ls 0 = some (.ref 58) → qm_get ls 2 = some (.int (qz x2)) → qm_get ls 3 = some (.int (qz x3)) → qm_get ls 4 = some (.int (qz x4)) → qm_get ls 5 = some (.long (ql x5)) → qm_get ls 7 = some (.ref 54) → qI σ α381 κ ρ → qFr [] [53, 57, 59, 60, 61, 62, 63, 85] σ α σ α381 → α381 18 = (α 18) → α381 20 = (α 20) → α381 22 = (α 22) → α381 24 = (α 24) → qAs (σ 54 6) (α381 59) (qNVc σ α (σ 58 10) x2 x3 x4 x5) 0 → qAs (σ 54 6) (α381 59) (qNVc σ α (σ 58 10) x2 x3 x4 x5) 1 → qCaN (α381 60) (α381 61) (σ 58 12) (fun p q => qnF (qTb (α 24)) (α 28) (α 29) (α 31) (α 30) (α 33) (σ 27 6) (σ 27 7) p q (σ 58 11)) → qCaN (α381 62) (α381 63) (σ 58 12) (fun p q => qbs (qhF (α 35) (α 36) (α 37) (α 40) (qcv (α 41)) (qlw (α 22)) p q (σ 58 11)) (σ 34 7 : Int).toNat) → qr_W (qe L xs vb) (d + 3) qx_e90 (fun r w' => ∃ α', w' = qw σ α' κ ρ ∧ qI σ α' κ ρ ∧ qFr [] [53, 57, 59, 60, 61, 62, 63, 85] σ α σ α' ∧ ∃ v : Int, r = some (.int (qz v)) ∧ ((-2147483648) ≤ v ∧ v ≤ 2147483647) ∧ v = f (qNVc σ α (σ 58 10) x2 x3 x4 x5) ∧ qCaN (α' 60) (α' 61) (σ 58 12) (fun p q => qnF (qTb (α 24)) (α 28) (α 29) (α 31) (α 30) (α 33) (σ 27 6) (σ 27 7) p q (σ 58 11)) ∧ qCaN (α' 62) (α' 63) (σ 58 12) (fun p q => qbs (qhF (α 35) (α 36) (α 37) (α 40) (qcv (α 41)) (qlw (α 22)) p q (σ 58 11)) (σ 34 7 : Int).toNat)) (63, ls, [], qw σ α381 κ ρ, 0, 0) := by
      intro ls α381 g374 g375 g376 g377 g378 g379 hI382 hF383 hk384 hk385 hk386 hk387 hx388 hx389 hx390 hx391
      refine qr_aload 65 rfl g379 rfl ?_
      refine qr_iconst 66 rfl rfl ?_
      refine qr_callN 69 rfl rfl rfl (sf_91_54x (d := d + 1) hI382 (by decide)) ?_
      have hs395 : (-2147483648) ≤ σ 54 6 ∧ σ 54 6 ≤ 2147483647 := hI382.1 54 6
      rintro _ _ ⟨rfl, v393, rfl, hv393, hp394⟩
      show qr_W (qe L xs vb) (d + 3) qx_e90 _ (69, _, [.int (qz v393)], qw σ α381 κ ρ, 0, 0)
      have hJ431 : ∀ (ls : qm_L) (α419 : Nat → Nat → Int), qm_get ls 0 = some (.ref 58) → qm_get ls 2 = some (.int (qz x2)) → qm_get ls 3 = some (.int (qz x3)) → qm_get ls 4 = some (.int (qz x4)) → qm_get ls 5 = some (.long (ql x5)) → qm_get ls 7 = some (.ref 54) → qI σ α419 κ ρ → qFr [] [53, 57, 59, 60, 61, 62, 63, 85] σ α σ α419 → α419 18 = (α 18) → α419 20 = (α 20) → α419 22 = (α 22) → α419 24 = (α 24) → qAs (σ 54 6) (α419 59) (qNVc σ α (σ 58 10) x2 x3 x4 x5) 0 → qAs (σ 54 6) (α419 59) (qNVc σ α (σ 58 10) x2 x3 x4 x5) 1 → qAs (σ 54 6) (α419 59) (qNVc σ α (σ 58 10) x2 x3 x4 x5) 2 → qCaN (α419 60) (α419 61) (σ 58 12) (fun p q => qnF (qTb (α 24)) (α 28) (α 29) (α 31) (α 30) (α 33) (σ 27 6) (σ 27 7) p q (σ 58 11)) → qCaN (α419 62) (α419 63) (σ 58 12) (fun p q => qbs (qhF (α 35) (α 36) (α 37) (α 40) (qcv (α 41)) (qlw (α 22)) p q (σ 58 11)) (σ 34 7 : Int).toNat) → qr_W (qe L xs vb) (d + 3) qx_e90 (fun r w' => ∃ α', w' = qw σ α' κ ρ ∧ qI σ α' κ ρ ∧ qFr [] [53, 57, 59, 60, 61, 62, 63, 85] σ α σ α' ∧ ∃ v : Int, r = some (.int (qz v)) ∧ ((-2147483648) ≤ v ∧ v ≤ 2147483647) ∧ v = f (qNVc σ α (σ 58 10) x2 x3 x4 x5) ∧ qCaN (α' 60) (α' 61) (σ 58 12) (fun p q => qnF (qTb (α 24)) (α 28) (α 29) (α 31) (α 30) (α 33) (σ 27 6) (σ 27 7) p q (σ 58 11)) ∧ qCaN (α' 62) (α' 63) (σ 58 12) (fun p q => qbs (qhF (α 35) (α 36) (α 37) (α 40) (qcv (α 41)) (qlw (α 22)) p q (σ 58 11)) (σ 34 7 : Int).toNat)) (87, ls, [], qw σ α419 κ ρ, 0, 0) := by
        intro ls α419 g412 g413 g414 g415 g416 g417 hI420 hF421 hk422 hk423 hk424 hk425 hx426 hx427 hx428 hx429 hx430
        refine qr_aload 89 rfl g417 rfl ?_
        refine qr_bipush 91 rfl (by decide) rfl ?_
        refine qr_callN 94 rfl rfl rfl (sf_91_54x (d := d + 1) hI420 (by decide)) ?_
        have hs434 : (-2147483648) ≤ σ 54 6 ∧ σ 54 6 ≤ 2147483647 := hI420.1 54 6
        rintro _ _ ⟨rfl, v432, rfl, hv432, hp433⟩
        show qr_W (qe L xs vb) (d + 3) qx_e90 _ (94, _, [.int (qz v432)], qw σ α419 κ ρ, 0, 0)
        have hJ461 : ∀ (ls : qm_L) (α448 : Nat → Nat → Int), qm_get ls 0 = some (.ref 58) → qm_get ls 2 = some (.int (qz x2)) → qm_get ls 3 = some (.int (qz x3)) → qm_get ls 4 = some (.int (qz x4)) → qm_get ls 7 = some (.ref 54) → qI σ α448 κ ρ → qFr [] [53, 57, 59, 60, 61, 62, 63, 85] σ α σ α448 → α448 18 = (α 18) → α448 20 = (α 20) → α448 22 = (α 22) → α448 24 = (α 24) → qAs (σ 54 6) (α448 59) (qNVc σ α (σ 58 10) x2 x3 x4 x5) 0 → qAs (σ 54 6) (α448 59) (qNVc σ α (σ 58 10) x2 x3 x4 x5) 1 → qAs (σ 54 6) (α448 59) (qNVc σ α (σ 58 10) x2 x3 x4 x5) 2 → qAs (σ 54 6) (α448 59) (qNVc σ α (σ 58 10) x2 x3 x4 x5) 7 → qCaN (α448 60) (α448 61) (σ 58 12) (fun p q => qnF (qTb (α 24)) (α 28) (α 29) (α 31) (α 30) (α 33) (σ 27 6) (σ 27 7) p q (σ 58 11)) → qCaN (α448 62) (α448 63) (σ 58 12) (fun p q => qbs (qhF (α 35) (α 36) (α 37) (α 40) (qcv (α 41)) (qlw (α 22)) p q (σ 58 11)) (σ 34 7 : Int).toNat) → qr_W (qe L xs vb) (d + 3) qx_e90 (fun r w' => ∃ α', w' = qw σ α' κ ρ ∧ qI σ α' κ ρ ∧ qFr [] [53, 57, 59, 60, 61, 62, 63, 85] σ α σ α' ∧ ∃ v : Int, r = some (.int (qz v)) ∧ ((-2147483648) ≤ v ∧ v ≤ 2147483647) ∧ v = f (qNVc σ α (σ 58 10) x2 x3 x4 x5) ∧ qCaN (α' 60) (α' 61) (σ 58 12) (fun p q => qnF (qTb (α 24)) (α 28) (α 29) (α 31) (α 30) (α 33) (σ 27 6) (σ 27 7) p q (σ 58 11)) ∧ qCaN (α' 62) (α' 63) (σ 58 12) (fun p q => qbs (qhF (α 35) (α 36) (α 37) (α 40) (qcv (α 41)) (qlw (α 22)) p q (σ 58 11)) (σ 34 7 : Int).toNat)) (114, ls, [], qw σ α448 κ ρ, 0, 0) := by
          intro ls α448 g442 g443 g444 g445 g446 hI449 hF450 hk451 hk452 hk453 hk454 hx455 hx456 hx457 hx458 hx459 hx460
          refine qr_aload_n 115 rfl g442 rfl ?_
          refine qr_get 118 rfl rfl rfl (by decide) rfl ?_
          refine qr_iconst 119 rfl rfl ?_
          refine qr_aload_n 120 rfl g442 rfl ?_
          refine qr_get 123 rfl rfl rfl (by decide) rfl ?_
          refine qr_get 126 rfl rfl rfl (by decide) rfl ?_
          refine qr_iload_n 127 rfl g443 rfl ?_
          refine qr_iaload 128 rfl rfl (qrgi r2 (by decide) (by decide)) (by decide) rfl ?_
          refine qr_topI (fun v462 hv462 => ?_)
          have hs463 : (-2147483648) ≤ v462 ∧ v462 ≤ 2147483647 := by rw [hv462]; exact hI449.2.1 20 _ (show _ < 32 from qrgt r2 (by decide) (by decide))
          have hrv462 : v462 = (α 20) (x2 : Int).toNat := hv462.trans (congrFun hk452 _)
          refine qr_iastore 129 rfl (by decide) rfl (by decide) (by decide) rfl ?_
          refine qy_wA (qw_r α448 59 (qzu (α448 59) (3 : Int).toNat v462)) rfl (fun α464 e465 => ?_)
          have hI466 : qI σ α464 κ ρ := by rw [e465]; exact qI_r hI449 59 _ rfl (show (-2147483648) ≤ v462 ∧ v462 ≤ 2147483647 by omega)
          have hF467 : qFr [] [53, 57, 59, 60, 61, 62, 63, 85] σ α σ α464 := by rw [e465]; exact qFr_r hF450 59 _ (by decide)
          refine qr_aload_n 130 rfl g442 rfl ?_
          refine qr_get 133 rfl rfl rfl (by decide) rfl ?_
          refine qr_iconst 134 rfl rfl ?_
          refine qr_aload_n 135 rfl g442 rfl ?_
          refine qr_get 138 rfl rfl rfl (by decide) rfl ?_
          refine qr_get 141 rfl rfl rfl (by decide) rfl ?_
          refine qr_iload_n 142 rfl g444 rfl ?_
          refine qr_iaload 143 rfl rfl (qrgi r3 (by decide) (by decide)) (by decide) rfl ?_
          refine qr_topI (fun v468 hv468 => ?_)
          have hs469 : (-2147483648) ≤ v468 ∧ v468 ≤ 2147483647 := by rw [hv468]; exact hI466.2.1 20 _ (show _ < 32 from qrgt r3 (by decide) (by decide))
          have hrv468 : v468 = (α 20) (x3 : Int).toNat := hv468.trans (congrFun ((congrFun e465 20).trans ((qw_r_ne (by decide)).trans hk452)) _)
          refine qr_iastore 144 rfl (by decide) rfl (by decide) (by decide) rfl ?_
          refine qy_wA (qw_r α464 59 (qzu (α464 59) (4 : Int).toNat v468)) rfl (fun α470 e471 => ?_)
          have hI472 : qI σ α470 κ ρ := by rw [e471]; exact qI_r hI466 59 _ rfl (show (-2147483648) ≤ v468 ∧ v468 ≤ 2147483647 by omega)
          have hF473 : qFr [] [53, 57, 59, 60, 61, 62, 63, 85] σ α σ α470 := by rw [e471]; exact qFr_r hF467 59 _ (by decide)
          refine qr_aload_n 145 rfl g442 rfl ?_
          refine qr_get 148 rfl rfl rfl (by decide) rfl ?_
          refine qr_iconst 149 rfl rfl ?_
          refine qr_aload_n 150 rfl g442 rfl ?_
          refine qr_get 153 rfl rfl rfl (by decide) rfl ?_
          refine qr_get 156 rfl rfl rfl (by decide) rfl ?_
          refine qr_iload_n 157 rfl g443 rfl ?_
          refine qr_laload 158 rfl (by decide) rfl (qrgi r2 (by decide) (by decide)) (by decide) rfl ?_
          refine qr_topL (fun v474 hv474 => ?_)
          have hs475 : (-9223372036854775808) ≤ v474 ∧ v474 ≤ 9223372036854775807 := by rw [hv474]; exact hI472.2.1 22 _ (show _ < 32 from qrgt r2 (by decide) (by decide))
          have hrv474 : v474 = (α 22) (x2 : Int).toNat := hv474.trans (congrFun ((congrFun e471 22).trans ((qw_r_ne (by decide)).trans ((congrFun e465 22).trans ((qw_r_ne (by decide)).trans hk453)))) _)
          refine qr_iload_n 159 rfl g444 rfl ?_
          refine qr_callN 162 rfl rfl rfl (sf_50b (d := d + 2) hI472 hs475 (qrg r3 (by decide) (by decide))) ?_
          rintro _ _ ⟨rfl, v476, rfl, hv476, hp477⟩
          show qr_W (qe L xs vb) (d + 3) qx_e90 _ (162, _, [.int (qz v476), .int (qz 5), .ref 59], qw σ α470 κ ρ, 0, 0)
          have hJ486 : ∀ (ls : qm_L) (u483 : Int), qm_get ls 0 = some (.ref 58) → qm_get ls 2 = some (.int (qz x2)) → qm_get ls 3 = some (.int (qz x3)) → qm_get ls 4 = some (.int (qz x4)) → qm_get ls 7 = some (.ref 54) → (0 ≤ u483 ∧ u483 ≤ 1) → u483 = qbit (α 22 (x2 : Int).toNat) x3 → qr_W (qe L xs vb) (d + 3) qx_e90 (fun r w' => ∃ α', w' = qw σ α' κ ρ ∧ qI σ α' κ ρ ∧ qFr [] [53, 57, 59, 60, 61, 62, 63, 85] σ α σ α' ∧ ∃ v : Int, r = some (.int (qz v)) ∧ ((-2147483648) ≤ v ∧ v ≤ 2147483647) ∧ v = f (qNVc σ α (σ 58 10) x2 x3 x4 x5) ∧ qCaN (α' 60) (α' 61) (σ 58 12) (fun p q => qnF (qTb (α 24)) (α 28) (α 29) (α 31) (α 30) (α 33) (σ 27 6) (σ 27 7) p q (σ 58 11)) ∧ qCaN (α' 62) (α' 63) (σ 58 12) (fun p q => qbs (qhF (α 35) (α 36) (α 37) (α 40) (qcv (α 41)) (qlw (α 22)) p q (σ 58 11)) (σ 34 7 : Int).toNat)) (170, ls, [.int (qz u483), .int (qz 5), .ref 59], qw σ α470 κ ρ, 0, 0) := by
            intro ls u483 g478 g479 g480 g481 g482 hf484 hx485
            refine qr_iastore 171 rfl (by decide) rfl (by decide) (by decide) rfl ?_
            refine qy_wA (qw_r α470 59 (qzu (α470 59) (5 : Int).toNat u483)) rfl (fun α487 e488 => ?_)
            have hI489 : qI σ α487 κ ρ := by rw [e488]; exact qI_r hI472 59 _ rfl (show (-2147483648) ≤ u483 ∧ u483 ≤ 2147483647 by omega)
            have hF490 : qFr [] [53, 57, 59, 60, 61, 62, 63, 85] σ α σ α487 := by rw [e488]; exact qFr_r hF473 59 _ (by decide)
            refine qr_aload_n 172 rfl g478 rfl ?_
            refine qr_get 175 rfl rfl rfl (by decide) rfl ?_
            refine qr_bipush 177 rfl (by decide) rfl ?_
            refine qr_aload_n 178 rfl g478 rfl ?_
            refine qr_get 181 rfl rfl rfl (by decide) rfl ?_
            refine qr_iload_n 182 rfl g479 rfl ?_
            refine qr_iload_n 183 rfl g480 rfl ?_
            refine qr_callN 186 rfl rfl rfl (sf_57_23x (d := d + 2) hI489 r2 r3) ?_
            rintro _ _ ⟨rfl, v491, rfl, hv491, hp492⟩
            rw [hF490.2 24 (by decide)] at hp492
            show qr_W (qe L xs vb) (d + 3) qx_e90 _ (186, _, [.int (qz v491), .int (qz 6), .ref 59], qw σ α487 κ ρ, 0, 0)
            refine qr_bipush 188 rfl (by decide) rfl ?_
            refine qr_callN 191 rfl rfl rfl (sf_12 (d := d + 2) hI489 (qrg hv491 (by decide) (by decide)) (by decide)) ?_
            rintro _ _ ⟨rfl, v493, rfl, hv493, hp494⟩
            show qr_W (qe L xs vb) (d + 3) qx_e90 _ (191, _, [.int (qz v493), .int (qz 6), .ref 59], qw σ α487 κ ρ, 0, 0)
            refine qr_iastore 192 rfl (by decide) rfl (by decide) (by decide) rfl ?_
            refine qy_wA (qw_r α487 59 (qzu (α487 59) (6 : Int).toNat v493)) rfl (fun α495 e496 => ?_)
            have hI497 : qI σ α495 κ ρ := by rw [e496]; exact qI_r hI489 59 _ rfl (show (-2147483648) ≤ v493 ∧ v493 ≤ 2147483647 by omega)
            have hF498 : qFr [] [53, 57, 59, 60, 61, 62, 63, 85] σ α σ α495 := by rw [e496]; exact qFr_r hF490 59 _ (by decide)
            refine qr_aload_n 193 rfl g478 rfl ?_
            refine qr_get 196 rfl rfl rfl (by decide) rfl ?_
            refine qr_bipush 198 rfl (by decide) rfl ?_
            refine qr_iload 200 rfl g481 rfl ?_
            refine qr_iconst 201 rfl rfl ?_
            have hJ508 : ∀ (ls : qm_L) (u505 : Int), qm_get ls 0 = some (.ref 58) → qm_get ls 7 = some (.ref 54) → (0 ≤ u505 ∧ u505 ≤ 9) → u505 = (if x4 = -1 then 0 else qm9 (qTb (α 24) x2 x4)) → qr_W (qe L xs vb) (d + 3) qx_e90 (fun r w' => ∃ α', w' = qw σ α' κ ρ ∧ qI σ α' κ ρ ∧ qFr [] [53, 57, 59, 60, 61, 62, 63, 85] σ α σ α' ∧ ∃ v : Int, r = some (.int (qz v)) ∧ ((-2147483648) ≤ v ∧ v ≤ 2147483647) ∧ v = f (qNVc σ α (σ 58 10) x2 x3 x4 x5) ∧ qCaN (α' 60) (α' 61) (σ 58 12) (fun p q => qnF (qTb (α 24)) (α 28) (α 29) (α 31) (α 30) (α 33) (σ 27 6) (σ 27 7) p q (σ 58 11)) ∧ qCaN (α' 62) (α' 63) (σ 58 12) (fun p q => qbs (qhF (α 35) (α 36) (α 37) (α 40) (qcv (α 41)) (qlw (α 22)) p q (σ 58 11)) (σ 34 7 : Int).toNat)) (223, ls, [.int (qz u505), .int (qz 8), .ref 59], qw σ α495 κ ρ, 0, 0) := by
              intro ls u505 g503 g504 hf506 hx507
              refine qr_iastore 224 rfl (by decide) rfl (by decide) (by decide) rfl ?_
              refine qy_wA (qw_r α495 59 (qzu (α495 59) (8 : Int).toNat u505)) rfl (fun α509 e510 => ?_)
              have hI511 : qI σ α509 κ ρ := by rw [e510]; exact qI_r hI497 59 _ rfl (show (-2147483648) ≤ u505 ∧ u505 ≤ 2147483647 by omega)
              have hF512 : qFr [] [53, 57, 59, 60, 61, 62, 63, 85] σ α σ α509 := by rw [e510]; exact qFr_r hF498 59 _ (by decide)
              refine qr_aload 226 rfl g504 rfl ?_
              refine qr_aload_n 227 rfl g503 rfl ?_
              refine qr_get 230 rfl rfl rfl (by decide) rfl ?_
              have hs513 : 0 ≤ σ 54 5 ∧ σ 54 5 ≤ 122 := hI511.1 54 5
              refine qr_callN 233 rfl rfl rfl (sf_97_54_59x (d := d + 1) hI511 (fun k h1 h2 => by rw [hF512.2 56 (by decide)]; exact hC313 k h1 h2)) ?_
              rintro _ _ ⟨α516, rfl, hI517, hG518, v514, rfl, hv514, hx515⟩
              have hF519 : qFr [] [53, 57, 59, 60, 61, 62, 63, 85] σ α σ α516 := qFr_t hF512 hG518 (by decide) (by decide)
              rw [hF512.2 56 (by decide)] at hx515
              show qr_W (qe L xs vb) (d + 3) qx_e90 _ (233, _, [.int (qz v514)], qw σ α516 κ ρ, 0, 0)
              refine qr_retI rfl rfl (by decide) (by decide) ?_
              exact ⟨_, rfl, hI517, hF519, v514, rfl, hv514, (qwo_v hY311 hD312 hx515 (qAs_tr (congrFun ((congrFun e510 59).trans (qw_r_eq.trans (congrArg (fun f => qzu f (8 : Int).toNat u505) ((congrFun e496 59).trans (qw_r_eq.trans (congrArg (fun f => qzu f (6 : Int).toNat v493) ((congrFun e488 59).trans (qw_r_eq.trans (congrArg (fun f => qzu f (5 : Int).toNat u483) ((congrFun e471 59).trans (qw_r_eq.trans (congrArg (fun f => qzu f (4 : Int).toNat v468) ((congrFun e465 59).trans (qw_r_eq.trans (congrArg (fun f => qzu f (3 : Int).toNat v462) rfl))))))))))))))) _) hx455) (qAs_tr (congrFun ((congrFun e510 59).trans (qw_r_eq.trans (congrArg (fun f => qzu f (8 : Int).toNat u505) ((congrFun e496 59).trans (qw_r_eq.trans (congrArg (fun f => qzu f (6 : Int).toNat v493) ((congrFun e488 59).trans (qw_r_eq.trans (congrArg (fun f => qzu f (5 : Int).toNat u483) ((congrFun e471 59).trans (qw_r_eq.trans (congrArg (fun f => qzu f (4 : Int).toNat v468) ((congrFun e465 59).trans (qw_r_eq.trans (congrArg (fun f => qzu f (3 : Int).toNat v462) rfl))))))))))))))) _) hx456) (qAs_tr (congrFun ((congrFun e510 59).trans (qw_r_eq.trans (congrArg (fun f => qzu f (8 : Int).toNat u505) ((congrFun e496 59).trans (qw_r_eq.trans (congrArg (fun f => qzu f (6 : Int).toNat v493) ((congrFun e488 59).trans (qw_r_eq.trans (congrArg (fun f => qzu f (5 : Int).toNat u483) ((congrFun e471 59).trans (qw_r_eq.trans (congrArg (fun f => qzu f (4 : Int).toNat v468) ((congrFun e465 59).trans (qw_r_eq.trans (congrArg (fun f => qzu f (3 : Int).toNat v462) rfl))))))))))))))) _) hx457) (qAs_tr (congrFun ((congrFun e510 59).trans (qw_r_eq.trans (congrArg (fun f => qzu f (8 : Int).toNat u505) ((congrFun e496 59).trans (qw_r_eq.trans (congrArg (fun f => qzu f (6 : Int).toNat v493) ((congrFun e488 59).trans (qw_r_eq.trans (congrArg (fun f => qzu f (5 : Int).toNat u483) ((congrFun e471 59).trans (qw_r_eq.trans (congrArg (fun f => qzu f (4 : Int).toNat v468) ((congrFun e465 59).trans (qw_r_eq.trans (congrArg (fun f => qzu f (3 : Int).toNat v462) rfl))))))))))))))) _) hx458) ((congrFun ((congrFun e510 59).trans (qw_r_eq.trans (congrArg (fun f => qzu f (8 : Int).toNat u505) ((congrFun e496 59).trans (qw_r_eq.trans (congrArg (fun f => qzu f (6 : Int).toNat v493) ((congrFun e488 59).trans (qw_r_eq.trans (congrArg (fun f => qzu f (5 : Int).toNat u483) ((congrFun e471 59).trans (qw_r_eq.trans (congrArg (fun f => qzu f (4 : Int).toNat v468) ((congrFun e465 59).trans (qw_r_eq.trans (congrArg (fun f => qzu f (3 : Int).toNat v462) rfl))))))))))))))) _).trans hrv462) ((congrFun ((congrFun e510 59).trans (qw_r_eq.trans (congrArg (fun f => qzu f (8 : Int).toNat u505) ((congrFun e496 59).trans (qw_r_eq.trans (congrArg (fun f => qzu f (6 : Int).toNat v493) ((congrFun e488 59).trans (qw_r_eq.trans (congrArg (fun f => qzu f (5 : Int).toNat u483) ((congrFun e471 59).trans (qw_r_eq.trans (congrArg (fun f => qzu f (4 : Int).toNat v468) ((congrFun e465 59).trans (qw_r_eq.trans (congrArg (fun f => qzu f (3 : Int).toNat v462) rfl))))))))))))))) _).trans hrv468) ((congrFun ((congrFun e510 59).trans (qw_r_eq.trans (congrArg (fun f => qzu f (8 : Int).toNat u505) ((congrFun e496 59).trans (qw_r_eq.trans (congrArg (fun f => qzu f (6 : Int).toNat v493) ((congrFun e488 59).trans (qw_r_eq.trans (congrArg (fun f => qzu f (5 : Int).toNat u483) ((congrFun e471 59).trans (qw_r_eq.trans (congrArg (fun f => qzu f (4 : Int).toNat v468) ((congrFun e465 59).trans (qw_r_eq.trans (congrArg (fun f => qzu f (3 : Int).toNat v462) rfl))))))))))))))) _).trans hx485) ((congrFun ((congrFun e510 59).trans (qw_r_eq.trans (congrArg (fun f => qzu f (8 : Int).toNat u505) ((congrFun e496 59).trans (qw_r_eq.trans (congrArg (fun f => qzu f (6 : Int).toNat v493) ((congrFun e488 59).trans (qw_r_eq.trans (congrArg (fun f => qzu f (5 : Int).toNat u483) ((congrFun e471 59).trans (qw_r_eq.trans (congrArg (fun f => qzu f (4 : Int).toNat v468) ((congrFun e465 59).trans (qw_r_eq.trans (congrArg (fun f => qzu f (3 : Int).toNat v462) rfl))))))))))))))) _).trans (qm9_of hp492 hp494)) ((congrFun ((congrFun e510 59).trans (qw_r_eq.trans (congrArg (fun f => qzu f (8 : Int).toNat u505) ((congrFun e496 59).trans (qw_r_eq.trans (congrArg (fun f => qzu f (6 : Int).toNat v493) ((congrFun e488 59).trans (qw_r_eq.trans (congrArg (fun f => qzu f (5 : Int).toNat u483) ((congrFun e471 59).trans (qw_r_eq.trans (congrArg (fun f => qzu f (4 : Int).toNat v468) ((congrFun e465 59).trans (qw_r_eq.trans (congrArg (fun f => qzu f (3 : Int).toNat v462) rfl))))))))))))))) _).trans hx507)), (qCaN_c ((hG518.2 60 (by decide)).trans ((congrFun e510 60).trans ((qw_r_ne (by decide)).trans ((congrFun e496 60).trans ((qw_r_ne (by decide)).trans ((congrFun e488 60).trans ((qw_r_ne (by decide)).trans ((congrFun e471 60).trans ((qw_r_ne (by decide)).trans ((congrFun e465 60).trans ((qw_r_ne (by decide)).trans rfl))))))))))) ((hG518.2 61 (by decide)).trans ((congrFun e510 61).trans ((qw_r_ne (by decide)).trans ((congrFun e496 61).trans ((qw_r_ne (by decide)).trans ((congrFun e488 61).trans ((qw_r_ne (by decide)).trans ((congrFun e471 61).trans ((qw_r_ne (by decide)).trans ((congrFun e465 61).trans ((qw_r_ne (by decide)).trans rfl))))))))))) hx459), (qCaN_c ((hG518.2 62 (by decide)).trans ((congrFun e510 62).trans ((qw_r_ne (by decide)).trans ((congrFun e496 62).trans ((qw_r_ne (by decide)).trans ((congrFun e488 62).trans ((qw_r_ne (by decide)).trans ((congrFun e471 62).trans ((qw_r_ne (by decide)).trans ((congrFun e465 62).trans ((qw_r_ne (by decide)).trans rfl))))))))))) ((hG518.2 63 (by decide)).trans ((congrFun e510 63).trans ((qw_r_ne (by decide)).trans ((congrFun e496 63).trans ((qw_r_ne (by decide)).trans ((congrFun e488 63).trans ((qw_r_ne (by decide)).trans ((congrFun e471 63).trans ((qw_r_ne (by decide)).trans ((congrFun e465 63).trans ((qw_r_ne (by decide)).trans rfl))))))))))) hx460)⟩
            refine qr_icmp_ne 208 204 rfl rfl rfl (qrg r4 (by decide) (by decide)) (by decide) (fun h520 => ?_) (fun h520 => ?_)
            · skip
              refine qr_aload_n 209 rfl g478 rfl ?_
              refine qr_get 212 rfl rfl rfl (by decide) rfl ?_
              refine qr_iload_n 213 rfl g479 rfl ?_
              refine qr_iload 215 rfl g481 rfl ?_
              refine qr_callN 218 rfl rfl rfl (sf_57_23x (d := d + 2) hI497 r2 (by omega)) ?_
              rintro _ _ ⟨rfl, v521, rfl, hv521, hp522⟩
              rw [hF498.2 24 (by decide)] at hp522
              show qr_W (qe L xs vb) (d + 3) qx_e90 _ (218, _, [.int (qz v521), .int (qz 8), .ref 59], qw σ α495 κ ρ, 0, 0)
              refine qr_bipush 220 rfl (by decide) rfl ?_
              refine qr_callN 223 rfl rfl rfl (sf_12 (d := d + 2) hI497 (qrg hv521 (by decide) (by decide)) (by decide)) ?_
              rintro _ _ ⟨rfl, v523, rfl, hv523, hp524⟩
              show qr_W (qe L xs vb) (d + 3) qx_e90 _ (223, _, [.int (qz v523), .int (qz 8), .ref 59], qw σ α495 κ ρ, 0, 0)
              exact hJ508 _ v523 g478 g482 (by omega) (by rw [if_neg (by omega)]; exact qm9_of hp522 hp524)
            · skip
              refine qr_iconst 205 rfl rfl ?_
              refine qr_goto 223 rfl rfl ?_
              exact hJ508 _ 0 g478 g482 (by decide) (by rw [if_pos (by omega)])
          refine qr_if_eq 169 165 rfl rfl rfl (qrg hv476 (by decide) (by decide)) (fun h525 => ?_) (fun h525 => ?_)
          · skip
            refine qr_iconst 170 rfl rfl ?_
            exact hJ486 _ 0 g442 g443 g444 g445 g446 (by decide) (by have h1 := hp477; rw [hrv474] at h1; omega)
          · skip
            refine qr_iconst 166 rfl rfl ?_
            refine qr_goto 170 rfl rfl ?_
            exact hJ486 _ 1 g442 g443 g444 g445 g446 (by decide) (by have h1 := hp477; rw [hrv474] at h1; omega)
        refine qr_if_eq 114 97 rfl rfl rfl (qrg hv432 (by decide) (by decide)) (fun h526 => ?_) (fun h526 => ?_)
        · skip
          exact hJ461 _ α419 g412 g413 g414 g415 g417 hI420 hF421 hk422 hk423 hk424 hk425 (qAs_tr (congrFun rfl _) hx426) (qAs_tr (congrFun rfl _) hx427) (qAs_tr (congrFun rfl _) hx428) (qAs_no (by omega)) (qCaN_c rfl rfl hx429) (qCaN_c rfl rfl hx430)
        · skip
          refine qr_aload_n 98 rfl g412 rfl ?_
          refine qr_get 101 rfl rfl rfl (by decide) rfl ?_
          refine qr_bipush 103 rfl (by decide) rfl ?_
          refine qr_aload_n 104 rfl g412 rfl ?_
          refine qr_get 107 rfl rfl rfl (by decide) rfl ?_
          refine qr_iload_n 108 rfl g413 rfl ?_
          refine qr_lload 110 rfl g416 rfl ?_
          refine qr_callN 113 rfl rfl rfl (sf_95_17x (d := d + 1) hI420 r2 r5) ?_
          have hs529 : 0 ≤ σ 17 6 ∧ σ 17 6 ≤ 32 := hI420.1 17 6
          rintro _ _ ⟨rfl, v527, rfl, hv527, hp528⟩
          rw [hF421.2 18 (by decide)] at hp528
          show qr_W (qe L xs vb) (d + 3) qx_e90 _ (113, _, [.int (qz v527), .int (qz 7), .ref 59], qw σ α419 κ ρ, 0, 0)
          refine qr_iastore 114 rfl (by decide) rfl (by decide) (by decide) rfl ?_
          refine qy_wA (qw_r α419 59 (qzu (α419 59) (7 : Int).toNat v527)) rfl (fun α530 e531 => ?_)
          have hI532 : qI σ α530 κ ρ := by rw [e531]; exact qI_r hI420 59 _ rfl (show (-2147483648) ≤ v527 ∧ v527 ≤ 2147483647 by omega)
          have hF533 : qFr [] [53, 57, 59, 60, 61, 62, 63, 85] σ α σ α530 := by rw [e531]; exact qFr_r hF421 59 _ (by decide)
          exact hJ461 _ α530 g412 g413 g414 g415 g417 hI532 hF533 ((congrFun e531 18).trans ((qw_r_ne (by decide)).trans hk422)) ((congrFun e531 20).trans ((qw_r_ne (by decide)).trans hk423)) ((congrFun e531 22).trans ((qw_r_ne (by decide)).trans hk424)) ((congrFun e531 24).trans ((qw_r_ne (by decide)).trans hk425)) (qAs_tr (congrFun ((congrFun e531 59).trans (qw_r_eq.trans (congrArg (fun f => qzu f (7 : Int).toNat v527) rfl))) _) hx426) (qAs_tr (congrFun ((congrFun e531 59).trans (qw_r_eq.trans (congrArg (fun f => qzu f (7 : Int).toNat v527) rfl))) _) hx427) (qAs_tr (congrFun ((congrFun e531 59).trans (qw_r_eq.trans (congrArg (fun f => qzu f (7 : Int).toNat v527) rfl))) _) hx428) (qAs_yes ((congrFun ((congrFun e531 59).trans (qw_r_eq.trans (congrArg (fun f => qzu f (7 : Int).toNat v527) rfl))) _).trans hp528)) (qCaN_c ((congrFun e531 60).trans ((qw_r_ne (by decide)).trans rfl)) ((congrFun e531 61).trans ((qw_r_ne (by decide)).trans rfl)) hx429) (qCaN_c ((congrFun e531 62).trans ((qw_r_ne (by decide)).trans rfl)) ((congrFun e531 63).trans ((qw_r_ne (by decide)).trans rfl)) hx430)
      refine qr_if_eq 87 72 rfl rfl rfl (qrg hv393 (by decide) (by decide)) (fun h534 => ?_) (fun h534 => ?_)
      · skip
        exact hJ431 _ α381 g374 g375 g376 g377 g378 g379 hI382 hF383 hk384 hk385 hk386 hk387 (qAs_tr (congrFun rfl _) hx388) (qAs_tr (congrFun rfl _) hx389) (qAs_no (by omega)) (qCaN_c rfl rfl hx390) (qCaN_c rfl rfl hx391)
      · skip
        refine qr_aload_n 73 rfl g374 rfl ?_
        refine qr_get 76 rfl rfl rfl (by decide) rfl ?_
        refine qr_iconst 77 rfl rfl ?_
        refine qr_aload_n 78 rfl g374 rfl ?_
        refine qr_iload_n 79 rfl g375 rfl ?_
        refine qr_iload_n 80 rfl g376 rfl ?_
        have hs535 : 0 ≤ σ 34 7 ∧ σ 34 7 ≤ 60 := hI382.1 34 7
        have hs536 : (-2147483648) ≤ σ 58 11 ∧ σ 58 11 ≤ 2147483647 := hI382.1 58 11
        have hs537 : (-2147483648) ≤ σ 58 12 ∧ σ 58 12 ≤ 2147483647 := hI382.1 58 12
        refine qr_callN 83 rfl rfl rfl (sf_94_58x (d := d + 0) hI382 r2 r3 (by omega) (by rw [hF383.2 22 (by decide), hF383.2 35 (by decide), hF383.2 36 (by decide), hF383.2 37 (by decide), hF383.2 40 (by decide), hF383.2 41 (by decide)]; exact (qCaN_c rfl rfl hx391)) (qZp_fr hF383 (by decide) (by decide) p4)) ?_
        rintro _ _ ⟨α541, rfl, hI542, hG543, v538, rfl, hv538, hx539, hx540⟩
        have hF544 : qFr [] [53, 57, 59, 60, 61, 62, 63, 85] σ α σ α541 := qFr_t hF383 hG543 (by decide) (by decide)
        rw [hF383.2 22 (by decide), hF383.2 35 (by decide), hF383.2 36 (by decide), hF383.2 37 (by decide), hF383.2 40 (by decide), hF383.2 41 (by decide)] at hx539
        rw [hF383.2 22 (by decide), hF383.2 35 (by decide), hF383.2 36 (by decide), hF383.2 37 (by decide), hF383.2 40 (by decide), hF383.2 41 (by decide)] at hx540
        show qr_W (qe L xs vb) (d + 3) qx_e90 _ (83, _, [.long (ql v538), .int (qz 2), .ref 59], qw σ α541 κ ρ, 0, 0)
        refine qr_callN 86 rfl rfl rfl (sf_74c (d := d + 2) hI542 hv538) ?_
        rintro _ _ ⟨rfl, v545, rfl, hv545, hp546⟩
        show qr_W (qe L xs vb) (d + 3) qx_e90 _ (86, _, [.int (qz v545), .int (qz 2), .ref 59], qw σ α541 κ ρ, 0, 0)
        refine qr_iastore 87 rfl (by decide) rfl (by decide) (by decide) rfl ?_
        refine qy_wA (qw_r α541 59 (qzu (α541 59) (2 : Int).toNat v545)) rfl (fun α547 e548 => ?_)
        have hI549 : qI σ α547 κ ρ := by rw [e548]; exact qI_r hI542 59 _ rfl (show (-2147483648) ≤ v545 ∧ v545 ≤ 2147483647 by omega)
        have hF550 : qFr [] [53, 57, 59, 60, 61, 62, 63, 85] σ α σ α547 := by rw [e548]; exact qFr_r hF544 59 _ (by decide)
        exact hJ431 _ α547 g374 g375 g376 g377 g378 g379 hI549 hF550 ((congrFun e548 18).trans ((qw_r_ne (by decide)).trans ((hG543.2 18 (by decide)).trans hk384))) ((congrFun e548 20).trans ((qw_r_ne (by decide)).trans ((hG543.2 20 (by decide)).trans hk385))) ((congrFun e548 22).trans ((qw_r_ne (by decide)).trans ((hG543.2 22 (by decide)).trans hk386))) ((congrFun e548 24).trans ((qw_r_ne (by decide)).trans ((hG543.2 24 (by decide)).trans hk387))) (qAs_tr (congrFun ((congrFun e548 59).trans (qw_r_eq.trans (congrArg (fun f => qzu f (2 : Int).toNat v545) ((hG543.2 59 (by decide)).trans rfl)))) _) hx388) (qAs_tr (congrFun ((congrFun e548 59).trans (qw_r_eq.trans (congrArg (fun f => qzu f (2 : Int).toNat v545) ((hG543.2 59 (by decide)).trans rfl)))) _) hx389) (qAs_yes ((congrFun ((congrFun e548 59).trans (qw_r_eq.trans (congrArg (fun f => qzu f (2 : Int).toNat v545) ((hG543.2 59 (by decide)).trans rfl)))) _).trans (by rw [hp546, hx539]; exact qhd_cn (fun k => qho_01 _ _ _ _ _ _ _ _ _ _ _) (by omega) _))) (qCaN_c ((congrFun e548 60).trans ((qw_r_ne (by decide)).trans ((hG543.2 60 (by decide)).trans rfl))) ((congrFun e548 61).trans ((qw_r_ne (by decide)).trans ((hG543.2 61 (by decide)).trans rfl))) hx390) (qCaN_c ((congrFun e548 62).trans ((qw_r_ne (by decide)).trans rfl)) ((congrFun e548 63).trans ((qw_r_ne (by decide)).trans rfl)) hx540)
    refine qr_if_ne 26 17 rfl rfl rfl (qrg hv314 (by decide) (by decide)) (fun h551 => ?_) (fun h551 => ?_)
    · skip
      refine qr_aload_n 27 rfl rfl rfl ?_
      refine qr_iload_n 28 rfl rfl rfl ?_
      refine qr_iload_n 29 rfl rfl rfl ?_
      have hs552 : (-9223372036854775808) ≤ σ 27 6 ∧ σ 27 6 ≤ 9223372036854775807 := hI.1 27 6
      have hs553 : 0 ≤ σ 27 7 ∧ σ 27 7 ≤ 40 := hI.1 27 7
      have hs554 : (-2147483648) ≤ σ 58 11 ∧ σ 58 11 ≤ 2147483647 := hI.1 58 11
      have hs555 : (-2147483648) ≤ σ 58 12 ∧ σ 58 12 ≤ 2147483647 := hI.1 58 12
      refine qr_callN 32 rfl rfl rfl (sf_92_58x (d := d + 0) hI r2 r3 (by omega) (qCaN_c rfl rfl p2)) ?_
      rintro _ _ ⟨α559, rfl, hI560, hG561, v556, rfl, hv556, hx557, hx558⟩
      have hF562 : qFr [] [53, 57, 59, 60, 61, 62, 63, 85] σ α σ α559 := qFr_t hF0 hG561 (by decide) (by decide)
      show qr_W (qe L xs vb) (d + 3) qx_e90 _ (32, _, [.int (qz v556)], qw σ α559 κ ρ, 0, 0)
      refine qr_bipush 34 rfl (by decide) rfl ?_
      refine qr_idiv 35 rfl (qrg hv556 (by decide) (by decide)) (by decide) rfl ?_
      refine qr_istore _ 37 rfl (by decide) rfl rfl ?_
      refine qr_aload_n 38 rfl rfl rfl ?_
      refine qr_get 41 rfl rfl rfl (by decide) rfl ?_
      refine qr_iconst 42 rfl rfl ?_
      refine qr_iload 44 rfl rfl rfl ?_
      refine qr_bipush 46 rfl (by decide) rfl ?_
      have hJ573 : ∀ (ls : qm_L) (u570 : Int), qm_get ls 0 = some (.ref 58) → qm_get ls 2 = some (.int (qz x2)) → qm_get ls 3 = some (.int (qz x3)) → qm_get ls 4 = some (.int (qz x4)) → qm_get ls 5 = some (.long (ql x5)) → qm_get ls 7 = some (.ref 54) → qm_get ls 8 = some (.int (qz (v556 / 64))) → (0 ≤ u570 ∧ u570 ≤ 1) → u570 = qnF1 (qnF (qTb (α 24)) (α 28) (α 29) (α 31) (α 30) (α 33) (σ 27 6) (σ 27 7) x2 x3 (σ 58 11)) → qr_W (qe L xs vb) (d + 3) qx_e90 (fun r w' => ∃ α', w' = qw σ α' κ ρ ∧ qI σ α' κ ρ ∧ qFr [] [53, 57, 59, 60, 61, 62, 63, 85] σ α σ α' ∧ ∃ v : Int, r = some (.int (qz v)) ∧ ((-2147483648) ≤ v ∧ v ≤ 2147483647) ∧ v = f (qNVc σ α (σ 58 10) x2 x3 x4 x5) ∧ qCaN (α' 60) (α' 61) (σ 58 12) (fun p q => qnF (qTb (α 24)) (α 28) (α 29) (α 31) (α 30) (α 33) (σ 27 6) (σ 27 7) p q (σ 58 11)) ∧ qCaN (α' 62) (α' 63) (σ 58 12) (fun p q => qbs (qhF (α 35) (α 36) (α 37) (α 40) (qcv (α 41)) (qlw (α 22)) p q (σ 58 11)) (σ 34 7 : Int).toNat)) (54, ls, [.int (qz u570), .int (qz 0), .ref 59], qw σ α559 κ ρ, 0, 0) := by
        intro ls u570 g563 g564 g565 g566 g567 g568 g569 hf571 hx572
        refine qr_iastore 55 rfl (by decide) rfl (by decide) (by decide) rfl ?_
        refine qy_wA (qw_r α559 59 (qzu (α559 59) (0 : Int).toNat u570)) rfl (fun α574 e575 => ?_)
        have hI576 : qI σ α574 κ ρ := by rw [e575]; exact qI_r hI560 59 _ rfl (show (-2147483648) ≤ u570 ∧ u570 ≤ 2147483647 by omega)
        have hF577 : qFr [] [53, 57, 59, 60, 61, 62, 63, 85] σ α σ α574 := by rw [e575]; exact qFr_r hF562 59 _ (by decide)
        refine qr_aload_n 56 rfl g563 rfl ?_
        refine qr_get 59 rfl rfl rfl (by decide) rfl ?_
        refine qr_iconst 60 rfl rfl ?_
        refine qr_iload 62 rfl g569 rfl ?_
        refine qr_iastore 63 rfl (by decide) rfl (by decide) (by decide) rfl ?_
        refine qy_wA (qw_r α574 59 (qzu (α574 59) (1 : Int).toNat (v556 / 64))) rfl (fun α578 e579 => ?_)
        have hI580 : qI σ α578 κ ρ := by rw [e579]; exact qI_r hI576 59 _ rfl (show (-2147483648) ≤ (v556 / 64) ∧ (v556 / 64) ≤ 2147483647 by omega)
        have hF581 : qFr [] [53, 57, 59, 60, 61, 62, 63, 85] σ α σ α578 := by rw [e579]; exact qFr_r hF577 59 _ (by decide)
        exact hJ392 _ α578 g563 g564 g565 g566 g567 g568 hI580 hF581 ((congrFun e579 18).trans ((qw_r_ne (by decide)).trans ((congrFun e575 18).trans ((qw_r_ne (by decide)).trans ((hG561.2 18 (by decide)).trans rfl))))) ((congrFun e579 20).trans ((qw_r_ne (by decide)).trans ((congrFun e575 20).trans ((qw_r_ne (by decide)).trans ((hG561.2 20 (by decide)).trans rfl))))) ((congrFun e579 22).trans ((qw_r_ne (by decide)).trans ((congrFun e575 22).trans ((qw_r_ne (by decide)).trans ((hG561.2 22 (by decide)).trans rfl))))) ((congrFun e579 24).trans ((qw_r_ne (by decide)).trans ((congrFun e575 24).trans ((qw_r_ne (by decide)).trans ((hG561.2 24 (by decide)).trans rfl))))) (qAs_yes ((congrFun ((congrFun e579 59).trans (qw_r_eq.trans (congrArg (fun f => qzu f (1 : Int).toNat (v556 / 64)) ((congrFun e575 59).trans (qw_r_eq.trans (congrArg (fun f => qzu f (0 : Int).toNat u570) ((hG561.2 59 (by decide)).trans rfl))))))) _).trans hx572)) (qAs_yes ((congrFun ((congrFun e579 59).trans (qw_r_eq.trans (congrArg (fun f => qzu f (1 : Int).toNat (v556 / 64)) ((congrFun e575 59).trans (qw_r_eq.trans (congrArg (fun f => qzu f (0 : Int).toNat u570) ((hG561.2 59 (by decide)).trans rfl))))))) _).trans (congrArg (fun t : Int => t / 64) hx557))) (qCaN_c ((congrFun e579 60).trans ((qw_r_ne (by decide)).trans ((congrFun e575 60).trans ((qw_r_ne (by decide)).trans rfl)))) ((congrFun e579 61).trans ((qw_r_ne (by decide)).trans ((congrFun e575 61).trans ((qw_r_ne (by decide)).trans rfl)))) hx558) (qCaN_c ((congrFun e579 62).trans ((qw_r_ne (by decide)).trans ((congrFun e575 62).trans ((qw_r_ne (by decide)).trans ((hG561.2 62 (by decide)).trans rfl))))) ((congrFun e579 63).trans ((qw_r_ne (by decide)).trans ((congrFun e575 63).trans ((qw_r_ne (by decide)).trans ((hG561.2 63 (by decide)).trans rfl))))) p3)
      refine qr_icmp_ge 53 49 rfl rfl rfl (by omega) (by decide) (fun h582 => ?_) (fun h582 => ?_)
      · skip
        refine qr_iconst 54 rfl rfl ?_
        exact hJ573 _ 0 rfl rfl rfl rfl rfl rfl rfl (by decide) (by rw [← hx557]; unfold qnF1; rw [if_neg (by omega)])
      · skip
        refine qr_iconst 50 rfl rfl ?_
        refine qr_goto 54 rfl rfl ?_
        exact hJ573 _ 1 rfl rfl rfl rfl rfl rfl rfl (by decide) (by rw [← hx557]; unfold qnF1; rw [if_pos (by omega)])
    · skip
      refine qr_aload 19 rfl rfl rfl ?_
      refine qr_iconst 20 rfl rfl ?_
      refine qr_callN 23 rfl rfl rfl (sf_91_54x (d := d + 1) hI (by decide)) ?_
      have hs585 : (-2147483648) ≤ σ 54 6 ∧ σ 54 6 ≤ 2147483647 := hI.1 54 6
      rintro _ _ ⟨rfl, v583, rfl, hv583, hp584⟩
      show qr_W (qe L xs vb) (d + 3) qx_e90 _ (23, _, [.int (qz v583)], qw σ α κ ρ, 0, 0)
      refine qr_if_eq 63 26 rfl rfl rfl (qrg hv583 (by decide) (by decide)) (fun h586 => ?_) (fun h586 => ?_)
      · skip
        exact hJ392 _ α rfl rfl rfl rfl rfl rfl hI hF0 rfl rfl rfl rfl (qAs_no (by omega)) (qAs_no (by omega)) (qCaN_c rfl rfl p2) (qCaN_c rfl rfl p3)
      · skip
        refine qr_aload_n 27 rfl rfl rfl ?_
        refine qr_iload_n 28 rfl rfl rfl ?_
        refine qr_iload_n 29 rfl rfl rfl ?_
        have hs587 : (-9223372036854775808) ≤ σ 27 6 ∧ σ 27 6 ≤ 9223372036854775807 := hI.1 27 6
        have hs588 : 0 ≤ σ 27 7 ∧ σ 27 7 ≤ 40 := hI.1 27 7
        have hs589 : (-2147483648) ≤ σ 58 11 ∧ σ 58 11 ≤ 2147483647 := hI.1 58 11
        have hs590 : (-2147483648) ≤ σ 58 12 ∧ σ 58 12 ≤ 2147483647 := hI.1 58 12
        refine qr_callN 32 rfl rfl rfl (sf_92_58x (d := d + 0) hI r2 r3 (by omega) (qCaN_c rfl rfl p2)) ?_
        rintro _ _ ⟨α594, rfl, hI595, hG596, v591, rfl, hv591, hx592, hx593⟩
        have hF597 : qFr [] [53, 57, 59, 60, 61, 62, 63, 85] σ α σ α594 := qFr_t hF0 hG596 (by decide) (by decide)
        show qr_W (qe L xs vb) (d + 3) qx_e90 _ (32, _, [.int (qz v591)], qw σ α594 κ ρ, 0, 0)
        refine qr_bipush 34 rfl (by decide) rfl ?_
        refine qr_idiv 35 rfl (qrg hv591 (by decide) (by decide)) (by decide) rfl ?_
        refine qr_istore _ 37 rfl (by decide) rfl rfl ?_
        refine qr_aload_n 38 rfl rfl rfl ?_
        refine qr_get 41 rfl rfl rfl (by decide) rfl ?_
        refine qr_iconst 42 rfl rfl ?_
        refine qr_iload 44 rfl rfl rfl ?_
        refine qr_bipush 46 rfl (by decide) rfl ?_
        have hJ608 : ∀ (ls : qm_L) (u605 : Int), qm_get ls 0 = some (.ref 58) → qm_get ls 2 = some (.int (qz x2)) → qm_get ls 3 = some (.int (qz x3)) → qm_get ls 4 = some (.int (qz x4)) → qm_get ls 5 = some (.long (ql x5)) → qm_get ls 7 = some (.ref 54) → qm_get ls 8 = some (.int (qz (v591 / 64))) → (0 ≤ u605 ∧ u605 ≤ 1) → u605 = qnF1 (qnF (qTb (α 24)) (α 28) (α 29) (α 31) (α 30) (α 33) (σ 27 6) (σ 27 7) x2 x3 (σ 58 11)) → qr_W (qe L xs vb) (d + 3) qx_e90 (fun r w' => ∃ α', w' = qw σ α' κ ρ ∧ qI σ α' κ ρ ∧ qFr [] [53, 57, 59, 60, 61, 62, 63, 85] σ α σ α' ∧ ∃ v : Int, r = some (.int (qz v)) ∧ ((-2147483648) ≤ v ∧ v ≤ 2147483647) ∧ v = f (qNVc σ α (σ 58 10) x2 x3 x4 x5) ∧ qCaN (α' 60) (α' 61) (σ 58 12) (fun p q => qnF (qTb (α 24)) (α 28) (α 29) (α 31) (α 30) (α 33) (σ 27 6) (σ 27 7) p q (σ 58 11)) ∧ qCaN (α' 62) (α' 63) (σ 58 12) (fun p q => qbs (qhF (α 35) (α 36) (α 37) (α 40) (qcv (α 41)) (qlw (α 22)) p q (σ 58 11)) (σ 34 7 : Int).toNat)) (54, ls, [.int (qz u605), .int (qz 0), .ref 59], qw σ α594 κ ρ, 0, 0) := by
          intro ls u605 g598 g599 g600 g601 g602 g603 g604 hf606 hx607
          refine qr_iastore 55 rfl (by decide) rfl (by decide) (by decide) rfl ?_
          refine qy_wA (qw_r α594 59 (qzu (α594 59) (0 : Int).toNat u605)) rfl (fun α609 e610 => ?_)
          have hI611 : qI σ α609 κ ρ := by rw [e610]; exact qI_r hI595 59 _ rfl (show (-2147483648) ≤ u605 ∧ u605 ≤ 2147483647 by omega)
          have hF612 : qFr [] [53, 57, 59, 60, 61, 62, 63, 85] σ α σ α609 := by rw [e610]; exact qFr_r hF597 59 _ (by decide)
          refine qr_aload_n 56 rfl g598 rfl ?_
          refine qr_get 59 rfl rfl rfl (by decide) rfl ?_
          refine qr_iconst 60 rfl rfl ?_
          refine qr_iload 62 rfl g604 rfl ?_
          refine qr_iastore 63 rfl (by decide) rfl (by decide) (by decide) rfl ?_
          refine qy_wA (qw_r α609 59 (qzu (α609 59) (1 : Int).toNat (v591 / 64))) rfl (fun α613 e614 => ?_)
          have hI615 : qI σ α613 κ ρ := by rw [e614]; exact qI_r hI611 59 _ rfl (show (-2147483648) ≤ (v591 / 64) ∧ (v591 / 64) ≤ 2147483647 by omega)
          have hF616 : qFr [] [53, 57, 59, 60, 61, 62, 63, 85] σ α σ α613 := by rw [e614]; exact qFr_r hF612 59 _ (by decide)
          exact hJ392 _ α613 g598 g599 g600 g601 g602 g603 hI615 hF616 ((congrFun e614 18).trans ((qw_r_ne (by decide)).trans ((congrFun e610 18).trans ((qw_r_ne (by decide)).trans ((hG596.2 18 (by decide)).trans rfl))))) ((congrFun e614 20).trans ((qw_r_ne (by decide)).trans ((congrFun e610 20).trans ((qw_r_ne (by decide)).trans ((hG596.2 20 (by decide)).trans rfl))))) ((congrFun e614 22).trans ((qw_r_ne (by decide)).trans ((congrFun e610 22).trans ((qw_r_ne (by decide)).trans ((hG596.2 22 (by decide)).trans rfl))))) ((congrFun e614 24).trans ((qw_r_ne (by decide)).trans ((congrFun e610 24).trans ((qw_r_ne (by decide)).trans ((hG596.2 24 (by decide)).trans rfl))))) (qAs_yes ((congrFun ((congrFun e614 59).trans (qw_r_eq.trans (congrArg (fun f => qzu f (1 : Int).toNat (v591 / 64)) ((congrFun e610 59).trans (qw_r_eq.trans (congrArg (fun f => qzu f (0 : Int).toNat u605) ((hG596.2 59 (by decide)).trans rfl))))))) _).trans hx607)) (qAs_yes ((congrFun ((congrFun e614 59).trans (qw_r_eq.trans (congrArg (fun f => qzu f (1 : Int).toNat (v591 / 64)) ((congrFun e610 59).trans (qw_r_eq.trans (congrArg (fun f => qzu f (0 : Int).toNat u605) ((hG596.2 59 (by decide)).trans rfl))))))) _).trans (congrArg (fun t : Int => t / 64) hx592))) (qCaN_c ((congrFun e614 60).trans ((qw_r_ne (by decide)).trans ((congrFun e610 60).trans ((qw_r_ne (by decide)).trans rfl)))) ((congrFun e614 61).trans ((qw_r_ne (by decide)).trans ((congrFun e610 61).trans ((qw_r_ne (by decide)).trans rfl)))) hx593) (qCaN_c ((congrFun e614 62).trans ((qw_r_ne (by decide)).trans ((congrFun e610 62).trans ((qw_r_ne (by decide)).trans ((hG596.2 62 (by decide)).trans rfl))))) ((congrFun e614 63).trans ((qw_r_ne (by decide)).trans ((congrFun e610 63).trans ((qw_r_ne (by decide)).trans ((hG596.2 63 (by decide)).trans rfl))))) p3)
        refine qr_icmp_ge 53 49 rfl rfl rfl (by omega) (by decide) (fun h617 => ?_) (fun h617 => ?_)
        · skip
          refine qr_iconst 54 rfl rfl ?_
          exact hJ608 _ 0 rfl rfl rfl rfl rfl rfl rfl (by decide) (by rw [← hx592]; unfold qnF1; rw [if_neg (by omega)])
        · skip
          refine qr_iconst 50 rfl rfl ?_
          refine qr_goto 54 rfl rfl ?_
          exact hJ608 _ 1 rfl rfl rfl rfl rfl rfl rfl (by decide) (by rw [← hx592]; unfold qnF1; rw [if_pos (by omega)])
  · skip
    obtain ⟨_, hY618, hD619, hC620⟩ := p1 82 hc2 (Or.inr (Or.inr rfl))
    refine qr_astore _ 8 rfl (by decide) rfl rfl ?_
    refine qr_aload 10 rfl rfl rfl ?_
    refine qr_iconst 11 rfl rfl ?_
    refine qr_callN 14 rfl rfl rfl (sf_91_82x (d := d + 1) hI (by decide)) ?_
    have hs623 : (-2147483648) ≤ σ 82 6 ∧ σ 82 6 ≤ 2147483647 := hI.1 82 6
    rintro _ _ ⟨rfl, v621, rfl, hv621, hp622⟩
    show qr_W (qe L xs vb) (d + 3) qx_e90 _ (14, _, [.int (qz v621)], qw σ α κ ρ, 0, 0)
    have hJ699 : ∀ (ls : qm_L) (α688 : Nat → Nat → Int), qm_get ls 0 = some (.ref 58) → qm_get ls 2 = some (.int (qz x2)) → qm_get ls 3 = some (.int (qz x3)) → qm_get ls 4 = some (.int (qz x4)) → qm_get ls 5 = some (.long (ql x5)) → qm_get ls 7 = some (.ref 82) → qI σ α688 κ ρ → qFr [] [53, 57, 59, 60, 61, 62, 63, 85] σ α σ α688 → α688 18 = (α 18) → α688 20 = (α 20) → α688 22 = (α 22) → α688 24 = (α 24) → qAs (σ 82 6) (α688 59) (qNVc σ α (σ 58 10) x2 x3 x4 x5) 0 → qAs (σ 82 6) (α688 59) (qNVc σ α (σ 58 10) x2 x3 x4 x5) 1 → qCaN (α688 60) (α688 61) (σ 58 12) (fun p q => qnF (qTb (α 24)) (α 28) (α 29) (α 31) (α 30) (α 33) (σ 27 6) (σ 27 7) p q (σ 58 11)) → qCaN (α688 62) (α688 63) (σ 58 12) (fun p q => qbs (qhF (α 35) (α 36) (α 37) (α 40) (qcv (α 41)) (qlw (α 22)) p q (σ 58 11)) (σ 34 7 : Int).toNat) → qr_W (qe L xs vb) (d + 3) qx_e90 (fun r w' => ∃ α', w' = qw σ α' κ ρ ∧ qI σ α' κ ρ ∧ qFr [] [53, 57, 59, 60, 61, 62, 63, 85] σ α σ α' ∧ ∃ v : Int, r = some (.int (qz v)) ∧ ((-2147483648) ≤ v ∧ v ≤ 2147483647) ∧ v = f (qNVc σ α (σ 58 10) x2 x3 x4 x5) ∧ qCaN (α' 60) (α' 61) (σ 58 12) (fun p q => qnF (qTb (α 24)) (α 28) (α 29) (α 31) (α 30) (α 33) (σ 27 6) (σ 27 7) p q (σ 58 11)) ∧ qCaN (α' 62) (α' 63) (σ 58 12) (fun p q => qbs (qhF (α 35) (α 36) (α 37) (α 40) (qcv (α 41)) (qlw (α 22)) p q (σ 58 11)) (σ 34 7 : Int).toNat)) (63, ls, [], qw σ α688 κ ρ, 0, 0) := by
      intro ls α688 g681 g682 g683 g684 g685 g686 hI689 hF690 hk691 hk692 hk693 hk694 hx695 hx696 hx697 hx698
      refine qr_aload 65 rfl g686 rfl ?_
      refine qr_iconst 66 rfl rfl ?_
      refine qr_callN 69 rfl rfl rfl (sf_91_82x (d := d + 1) hI689 (by decide)) ?_
      have hs702 : (-2147483648) ≤ σ 82 6 ∧ σ 82 6 ≤ 2147483647 := hI689.1 82 6
      rintro _ _ ⟨rfl, v700, rfl, hv700, hp701⟩
      show qr_W (qe L xs vb) (d + 3) qx_e90 _ (69, _, [.int (qz v700)], qw σ α688 κ ρ, 0, 0)
      have hJ738 : ∀ (ls : qm_L) (α726 : Nat → Nat → Int), qm_get ls 0 = some (.ref 58) → qm_get ls 2 = some (.int (qz x2)) → qm_get ls 3 = some (.int (qz x3)) → qm_get ls 4 = some (.int (qz x4)) → qm_get ls 5 = some (.long (ql x5)) → qm_get ls 7 = some (.ref 82) → qI σ α726 κ ρ → qFr [] [53, 57, 59, 60, 61, 62, 63, 85] σ α σ α726 → α726 18 = (α 18) → α726 20 = (α 20) → α726 22 = (α 22) → α726 24 = (α 24) → qAs (σ 82 6) (α726 59) (qNVc σ α (σ 58 10) x2 x3 x4 x5) 0 → qAs (σ 82 6) (α726 59) (qNVc σ α (σ 58 10) x2 x3 x4 x5) 1 → qAs (σ 82 6) (α726 59) (qNVc σ α (σ 58 10) x2 x3 x4 x5) 2 → qCaN (α726 60) (α726 61) (σ 58 12) (fun p q => qnF (qTb (α 24)) (α 28) (α 29) (α 31) (α 30) (α 33) (σ 27 6) (σ 27 7) p q (σ 58 11)) → qCaN (α726 62) (α726 63) (σ 58 12) (fun p q => qbs (qhF (α 35) (α 36) (α 37) (α 40) (qcv (α 41)) (qlw (α 22)) p q (σ 58 11)) (σ 34 7 : Int).toNat) → qr_W (qe L xs vb) (d + 3) qx_e90 (fun r w' => ∃ α', w' = qw σ α' κ ρ ∧ qI σ α' κ ρ ∧ qFr [] [53, 57, 59, 60, 61, 62, 63, 85] σ α σ α' ∧ ∃ v : Int, r = some (.int (qz v)) ∧ ((-2147483648) ≤ v ∧ v ≤ 2147483647) ∧ v = f (qNVc σ α (σ 58 10) x2 x3 x4 x5) ∧ qCaN (α' 60) (α' 61) (σ 58 12) (fun p q => qnF (qTb (α 24)) (α 28) (α 29) (α 31) (α 30) (α 33) (σ 27 6) (σ 27 7) p q (σ 58 11)) ∧ qCaN (α' 62) (α' 63) (σ 58 12) (fun p q => qbs (qhF (α 35) (α 36) (α 37) (α 40) (qcv (α 41)) (qlw (α 22)) p q (σ 58 11)) (σ 34 7 : Int).toNat)) (87, ls, [], qw σ α726 κ ρ, 0, 0) := by
        intro ls α726 g719 g720 g721 g722 g723 g724 hI727 hF728 hk729 hk730 hk731 hk732 hx733 hx734 hx735 hx736 hx737
        refine qr_aload 89 rfl g724 rfl ?_
        refine qr_bipush 91 rfl (by decide) rfl ?_
        refine qr_callN 94 rfl rfl rfl (sf_91_82x (d := d + 1) hI727 (by decide)) ?_
        have hs741 : (-2147483648) ≤ σ 82 6 ∧ σ 82 6 ≤ 2147483647 := hI727.1 82 6
        rintro _ _ ⟨rfl, v739, rfl, hv739, hp740⟩
        show qr_W (qe L xs vb) (d + 3) qx_e90 _ (94, _, [.int (qz v739)], qw σ α726 κ ρ, 0, 0)
        have hJ768 : ∀ (ls : qm_L) (α755 : Nat → Nat → Int), qm_get ls 0 = some (.ref 58) → qm_get ls 2 = some (.int (qz x2)) → qm_get ls 3 = some (.int (qz x3)) → qm_get ls 4 = some (.int (qz x4)) → qm_get ls 7 = some (.ref 82) → qI σ α755 κ ρ → qFr [] [53, 57, 59, 60, 61, 62, 63, 85] σ α σ α755 → α755 18 = (α 18) → α755 20 = (α 20) → α755 22 = (α 22) → α755 24 = (α 24) → qAs (σ 82 6) (α755 59) (qNVc σ α (σ 58 10) x2 x3 x4 x5) 0 → qAs (σ 82 6) (α755 59) (qNVc σ α (σ 58 10) x2 x3 x4 x5) 1 → qAs (σ 82 6) (α755 59) (qNVc σ α (σ 58 10) x2 x3 x4 x5) 2 → qAs (σ 82 6) (α755 59) (qNVc σ α (σ 58 10) x2 x3 x4 x5) 7 → qCaN (α755 60) (α755 61) (σ 58 12) (fun p q => qnF (qTb (α 24)) (α 28) (α 29) (α 31) (α 30) (α 33) (σ 27 6) (σ 27 7) p q (σ 58 11)) → qCaN (α755 62) (α755 63) (σ 58 12) (fun p q => qbs (qhF (α 35) (α 36) (α 37) (α 40) (qcv (α 41)) (qlw (α 22)) p q (σ 58 11)) (σ 34 7 : Int).toNat) → qr_W (qe L xs vb) (d + 3) qx_e90 (fun r w' => ∃ α', w' = qw σ α' κ ρ ∧ qI σ α' κ ρ ∧ qFr [] [53, 57, 59, 60, 61, 62, 63, 85] σ α σ α' ∧ ∃ v : Int, r = some (.int (qz v)) ∧ ((-2147483648) ≤ v ∧ v ≤ 2147483647) ∧ v = f (qNVc σ α (σ 58 10) x2 x3 x4 x5) ∧ qCaN (α' 60) (α' 61) (σ 58 12) (fun p q => qnF (qTb (α 24)) (α 28) (α 29) (α 31) (α 30) (α 33) (σ 27 6) (σ 27 7) p q (σ 58 11)) ∧ qCaN (α' 62) (α' 63) (σ 58 12) (fun p q => qbs (qhF (α 35) (α 36) (α 37) (α 40) (qcv (α 41)) (qlw (α 22)) p q (σ 58 11)) (σ 34 7 : Int).toNat)) (114, ls, [], qw σ α755 κ ρ, 0, 0) := by
          intro ls α755 g749 g750 g751 g752 g753 hI756 hF757 hk758 hk759 hk760 hk761 hx762 hx763 hx764 hx765 hx766 hx767
          refine qr_aload_n 115 rfl g749 rfl ?_
          refine qr_get 118 rfl rfl rfl (by decide) rfl ?_
          refine qr_iconst 119 rfl rfl ?_
          refine qr_aload_n 120 rfl g749 rfl ?_
          refine qr_get 123 rfl rfl rfl (by decide) rfl ?_
          refine qr_get 126 rfl rfl rfl (by decide) rfl ?_
          refine qr_iload_n 127 rfl g750 rfl ?_
          refine qr_iaload 128 rfl rfl (qrgi r2 (by decide) (by decide)) (by decide) rfl ?_
          refine qr_topI (fun v769 hv769 => ?_)
          have hs770 : (-2147483648) ≤ v769 ∧ v769 ≤ 2147483647 := by rw [hv769]; exact hI756.2.1 20 _ (show _ < 32 from qrgt r2 (by decide) (by decide))
          have hrv769 : v769 = (α 20) (x2 : Int).toNat := hv769.trans (congrFun hk759 _)
          refine qr_iastore 129 rfl (by decide) rfl (by decide) (by decide) rfl ?_
          refine qy_wA (qw_r α755 59 (qzu (α755 59) (3 : Int).toNat v769)) rfl (fun α771 e772 => ?_)
          have hI773 : qI σ α771 κ ρ := by rw [e772]; exact qI_r hI756 59 _ rfl (show (-2147483648) ≤ v769 ∧ v769 ≤ 2147483647 by omega)
          have hF774 : qFr [] [53, 57, 59, 60, 61, 62, 63, 85] σ α σ α771 := by rw [e772]; exact qFr_r hF757 59 _ (by decide)
          refine qr_aload_n 130 rfl g749 rfl ?_
          refine qr_get 133 rfl rfl rfl (by decide) rfl ?_
          refine qr_iconst 134 rfl rfl ?_
          refine qr_aload_n 135 rfl g749 rfl ?_
          refine qr_get 138 rfl rfl rfl (by decide) rfl ?_
          refine qr_get 141 rfl rfl rfl (by decide) rfl ?_
          refine qr_iload_n 142 rfl g751 rfl ?_
          refine qr_iaload 143 rfl rfl (qrgi r3 (by decide) (by decide)) (by decide) rfl ?_
          refine qr_topI (fun v775 hv775 => ?_)
          have hs776 : (-2147483648) ≤ v775 ∧ v775 ≤ 2147483647 := by rw [hv775]; exact hI773.2.1 20 _ (show _ < 32 from qrgt r3 (by decide) (by decide))
          have hrv775 : v775 = (α 20) (x3 : Int).toNat := hv775.trans (congrFun ((congrFun e772 20).trans ((qw_r_ne (by decide)).trans hk759)) _)
          refine qr_iastore 144 rfl (by decide) rfl (by decide) (by decide) rfl ?_
          refine qy_wA (qw_r α771 59 (qzu (α771 59) (4 : Int).toNat v775)) rfl (fun α777 e778 => ?_)
          have hI779 : qI σ α777 κ ρ := by rw [e778]; exact qI_r hI773 59 _ rfl (show (-2147483648) ≤ v775 ∧ v775 ≤ 2147483647 by omega)
          have hF780 : qFr [] [53, 57, 59, 60, 61, 62, 63, 85] σ α σ α777 := by rw [e778]; exact qFr_r hF774 59 _ (by decide)
          refine qr_aload_n 145 rfl g749 rfl ?_
          refine qr_get 148 rfl rfl rfl (by decide) rfl ?_
          refine qr_iconst 149 rfl rfl ?_
          refine qr_aload_n 150 rfl g749 rfl ?_
          refine qr_get 153 rfl rfl rfl (by decide) rfl ?_
          refine qr_get 156 rfl rfl rfl (by decide) rfl ?_
          refine qr_iload_n 157 rfl g750 rfl ?_
          refine qr_laload 158 rfl (by decide) rfl (qrgi r2 (by decide) (by decide)) (by decide) rfl ?_
          refine qr_topL (fun v781 hv781 => ?_)
          have hs782 : (-9223372036854775808) ≤ v781 ∧ v781 ≤ 9223372036854775807 := by rw [hv781]; exact hI779.2.1 22 _ (show _ < 32 from qrgt r2 (by decide) (by decide))
          have hrv781 : v781 = (α 22) (x2 : Int).toNat := hv781.trans (congrFun ((congrFun e778 22).trans ((qw_r_ne (by decide)).trans ((congrFun e772 22).trans ((qw_r_ne (by decide)).trans hk760)))) _)
          refine qr_iload_n 159 rfl g751 rfl ?_
          refine qr_callN 162 rfl rfl rfl (sf_50b (d := d + 2) hI779 hs782 (qrg r3 (by decide) (by decide))) ?_
          rintro _ _ ⟨rfl, v783, rfl, hv783, hp784⟩
          show qr_W (qe L xs vb) (d + 3) qx_e90 _ (162, _, [.int (qz v783), .int (qz 5), .ref 59], qw σ α777 κ ρ, 0, 0)
          have hJ793 : ∀ (ls : qm_L) (u790 : Int), qm_get ls 0 = some (.ref 58) → qm_get ls 2 = some (.int (qz x2)) → qm_get ls 3 = some (.int (qz x3)) → qm_get ls 4 = some (.int (qz x4)) → qm_get ls 7 = some (.ref 82) → (0 ≤ u790 ∧ u790 ≤ 1) → u790 = qbit (α 22 (x2 : Int).toNat) x3 → qr_W (qe L xs vb) (d + 3) qx_e90 (fun r w' => ∃ α', w' = qw σ α' κ ρ ∧ qI σ α' κ ρ ∧ qFr [] [53, 57, 59, 60, 61, 62, 63, 85] σ α σ α' ∧ ∃ v : Int, r = some (.int (qz v)) ∧ ((-2147483648) ≤ v ∧ v ≤ 2147483647) ∧ v = f (qNVc σ α (σ 58 10) x2 x3 x4 x5) ∧ qCaN (α' 60) (α' 61) (σ 58 12) (fun p q => qnF (qTb (α 24)) (α 28) (α 29) (α 31) (α 30) (α 33) (σ 27 6) (σ 27 7) p q (σ 58 11)) ∧ qCaN (α' 62) (α' 63) (σ 58 12) (fun p q => qbs (qhF (α 35) (α 36) (α 37) (α 40) (qcv (α 41)) (qlw (α 22)) p q (σ 58 11)) (σ 34 7 : Int).toNat)) (170, ls, [.int (qz u790), .int (qz 5), .ref 59], qw σ α777 κ ρ, 0, 0) := by
            intro ls u790 g785 g786 g787 g788 g789 hf791 hx792
            refine qr_iastore 171 rfl (by decide) rfl (by decide) (by decide) rfl ?_
            refine qy_wA (qw_r α777 59 (qzu (α777 59) (5 : Int).toNat u790)) rfl (fun α794 e795 => ?_)
            have hI796 : qI σ α794 κ ρ := by rw [e795]; exact qI_r hI779 59 _ rfl (show (-2147483648) ≤ u790 ∧ u790 ≤ 2147483647 by omega)
            have hF797 : qFr [] [53, 57, 59, 60, 61, 62, 63, 85] σ α σ α794 := by rw [e795]; exact qFr_r hF780 59 _ (by decide)
            refine qr_aload_n 172 rfl g785 rfl ?_
            refine qr_get 175 rfl rfl rfl (by decide) rfl ?_
            refine qr_bipush 177 rfl (by decide) rfl ?_
            refine qr_aload_n 178 rfl g785 rfl ?_
            refine qr_get 181 rfl rfl rfl (by decide) rfl ?_
            refine qr_iload_n 182 rfl g786 rfl ?_
            refine qr_iload_n 183 rfl g787 rfl ?_
            refine qr_callN 186 rfl rfl rfl (sf_57_23x (d := d + 2) hI796 r2 r3) ?_
            rintro _ _ ⟨rfl, v798, rfl, hv798, hp799⟩
            rw [hF797.2 24 (by decide)] at hp799
            show qr_W (qe L xs vb) (d + 3) qx_e90 _ (186, _, [.int (qz v798), .int (qz 6), .ref 59], qw σ α794 κ ρ, 0, 0)
            refine qr_bipush 188 rfl (by decide) rfl ?_
            refine qr_callN 191 rfl rfl rfl (sf_12 (d := d + 2) hI796 (qrg hv798 (by decide) (by decide)) (by decide)) ?_
            rintro _ _ ⟨rfl, v800, rfl, hv800, hp801⟩
            show qr_W (qe L xs vb) (d + 3) qx_e90 _ (191, _, [.int (qz v800), .int (qz 6), .ref 59], qw σ α794 κ ρ, 0, 0)
            refine qr_iastore 192 rfl (by decide) rfl (by decide) (by decide) rfl ?_
            refine qy_wA (qw_r α794 59 (qzu (α794 59) (6 : Int).toNat v800)) rfl (fun α802 e803 => ?_)
            have hI804 : qI σ α802 κ ρ := by rw [e803]; exact qI_r hI796 59 _ rfl (show (-2147483648) ≤ v800 ∧ v800 ≤ 2147483647 by omega)
            have hF805 : qFr [] [53, 57, 59, 60, 61, 62, 63, 85] σ α σ α802 := by rw [e803]; exact qFr_r hF797 59 _ (by decide)
            refine qr_aload_n 193 rfl g785 rfl ?_
            refine qr_get 196 rfl rfl rfl (by decide) rfl ?_
            refine qr_bipush 198 rfl (by decide) rfl ?_
            refine qr_iload 200 rfl g788 rfl ?_
            refine qr_iconst 201 rfl rfl ?_
            have hJ815 : ∀ (ls : qm_L) (u812 : Int), qm_get ls 0 = some (.ref 58) → qm_get ls 7 = some (.ref 82) → (0 ≤ u812 ∧ u812 ≤ 9) → u812 = (if x4 = -1 then 0 else qm9 (qTb (α 24) x2 x4)) → qr_W (qe L xs vb) (d + 3) qx_e90 (fun r w' => ∃ α', w' = qw σ α' κ ρ ∧ qI σ α' κ ρ ∧ qFr [] [53, 57, 59, 60, 61, 62, 63, 85] σ α σ α' ∧ ∃ v : Int, r = some (.int (qz v)) ∧ ((-2147483648) ≤ v ∧ v ≤ 2147483647) ∧ v = f (qNVc σ α (σ 58 10) x2 x3 x4 x5) ∧ qCaN (α' 60) (α' 61) (σ 58 12) (fun p q => qnF (qTb (α 24)) (α 28) (α 29) (α 31) (α 30) (α 33) (σ 27 6) (σ 27 7) p q (σ 58 11)) ∧ qCaN (α' 62) (α' 63) (σ 58 12) (fun p q => qbs (qhF (α 35) (α 36) (α 37) (α 40) (qcv (α 41)) (qlw (α 22)) p q (σ 58 11)) (σ 34 7 : Int).toNat)) (223, ls, [.int (qz u812), .int (qz 8), .ref 59], qw σ α802 κ ρ, 0, 0) := by
              intro ls u812 g810 g811 hf813 hx814
              refine qr_iastore 224 rfl (by decide) rfl (by decide) (by decide) rfl ?_
              refine qy_wA (qw_r α802 59 (qzu (α802 59) (8 : Int).toNat u812)) rfl (fun α816 e817 => ?_)
              have hI818 : qI σ α816 κ ρ := by rw [e817]; exact qI_r hI804 59 _ rfl (show (-2147483648) ≤ u812 ∧ u812 ≤ 2147483647 by omega)
              have hF819 : qFr [] [53, 57, 59, 60, 61, 62, 63, 85] σ α σ α816 := by rw [e817]; exact qFr_r hF805 59 _ (by decide)
              refine qr_aload 226 rfl g811 rfl ?_
              refine qr_aload_n 227 rfl g810 rfl ?_
              refine qr_get 230 rfl rfl rfl (by decide) rfl ?_
              have hs820 : 0 ≤ σ 82 5 ∧ σ 82 5 ≤ 122 := hI818.1 82 5
              refine qr_callN 233 rfl rfl rfl (sf_97_82_59x (d := d + 1) hI818 (fun k h1 h2 => by rw [hF819.2 84 (by decide)]; exact hC620 k h1 h2)) ?_
              rintro _ _ ⟨α823, rfl, hI824, hG825, v821, rfl, hv821, hx822⟩
              have hF826 : qFr [] [53, 57, 59, 60, 61, 62, 63, 85] σ α σ α823 := qFr_t hF819 hG825 (by decide) (by decide)
              rw [hF819.2 84 (by decide)] at hx822
              show qr_W (qe L xs vb) (d + 3) qx_e90 _ (233, _, [.int (qz v821)], qw σ α823 κ ρ, 0, 0)
              refine qr_retI rfl rfl (by decide) (by decide) ?_
              exact ⟨_, rfl, hI824, hF826, v821, rfl, hv821, (qwo_v hY618 hD619 hx822 (qAs_tr (congrFun ((congrFun e817 59).trans (qw_r_eq.trans (congrArg (fun f => qzu f (8 : Int).toNat u812) ((congrFun e803 59).trans (qw_r_eq.trans (congrArg (fun f => qzu f (6 : Int).toNat v800) ((congrFun e795 59).trans (qw_r_eq.trans (congrArg (fun f => qzu f (5 : Int).toNat u790) ((congrFun e778 59).trans (qw_r_eq.trans (congrArg (fun f => qzu f (4 : Int).toNat v775) ((congrFun e772 59).trans (qw_r_eq.trans (congrArg (fun f => qzu f (3 : Int).toNat v769) rfl))))))))))))))) _) hx762) (qAs_tr (congrFun ((congrFun e817 59).trans (qw_r_eq.trans (congrArg (fun f => qzu f (8 : Int).toNat u812) ((congrFun e803 59).trans (qw_r_eq.trans (congrArg (fun f => qzu f (6 : Int).toNat v800) ((congrFun e795 59).trans (qw_r_eq.trans (congrArg (fun f => qzu f (5 : Int).toNat u790) ((congrFun e778 59).trans (qw_r_eq.trans (congrArg (fun f => qzu f (4 : Int).toNat v775) ((congrFun e772 59).trans (qw_r_eq.trans (congrArg (fun f => qzu f (3 : Int).toNat v769) rfl))))))))))))))) _) hx763) (qAs_tr (congrFun ((congrFun e817 59).trans (qw_r_eq.trans (congrArg (fun f => qzu f (8 : Int).toNat u812) ((congrFun e803 59).trans (qw_r_eq.trans (congrArg (fun f => qzu f (6 : Int).toNat v800) ((congrFun e795 59).trans (qw_r_eq.trans (congrArg (fun f => qzu f (5 : Int).toNat u790) ((congrFun e778 59).trans (qw_r_eq.trans (congrArg (fun f => qzu f (4 : Int).toNat v775) ((congrFun e772 59).trans (qw_r_eq.trans (congrArg (fun f => qzu f (3 : Int).toNat v769) rfl))))))))))))))) _) hx764) (qAs_tr (congrFun ((congrFun e817 59).trans (qw_r_eq.trans (congrArg (fun f => qzu f (8 : Int).toNat u812) ((congrFun e803 59).trans (qw_r_eq.trans (congrArg (fun f => qzu f (6 : Int).toNat v800) ((congrFun e795 59).trans (qw_r_eq.trans (congrArg (fun f => qzu f (5 : Int).toNat u790) ((congrFun e778 59).trans (qw_r_eq.trans (congrArg (fun f => qzu f (4 : Int).toNat v775) ((congrFun e772 59).trans (qw_r_eq.trans (congrArg (fun f => qzu f (3 : Int).toNat v769) rfl))))))))))))))) _) hx765) ((congrFun ((congrFun e817 59).trans (qw_r_eq.trans (congrArg (fun f => qzu f (8 : Int).toNat u812) ((congrFun e803 59).trans (qw_r_eq.trans (congrArg (fun f => qzu f (6 : Int).toNat v800) ((congrFun e795 59).trans (qw_r_eq.trans (congrArg (fun f => qzu f (5 : Int).toNat u790) ((congrFun e778 59).trans (qw_r_eq.trans (congrArg (fun f => qzu f (4 : Int).toNat v775) ((congrFun e772 59).trans (qw_r_eq.trans (congrArg (fun f => qzu f (3 : Int).toNat v769) rfl))))))))))))))) _).trans hrv769) ((congrFun ((congrFun e817 59).trans (qw_r_eq.trans (congrArg (fun f => qzu f (8 : Int).toNat u812) ((congrFun e803 59).trans (qw_r_eq.trans (congrArg (fun f => qzu f (6 : Int).toNat v800) ((congrFun e795 59).trans (qw_r_eq.trans (congrArg (fun f => qzu f (5 : Int).toNat u790) ((congrFun e778 59).trans (qw_r_eq.trans (congrArg (fun f => qzu f (4 : Int).toNat v775) ((congrFun e772 59).trans (qw_r_eq.trans (congrArg (fun f => qzu f (3 : Int).toNat v769) rfl))))))))))))))) _).trans hrv775) ((congrFun ((congrFun e817 59).trans (qw_r_eq.trans (congrArg (fun f => qzu f (8 : Int).toNat u812) ((congrFun e803 59).trans (qw_r_eq.trans (congrArg (fun f => qzu f (6 : Int).toNat v800) ((congrFun e795 59).trans (qw_r_eq.trans (congrArg (fun f => qzu f (5 : Int).toNat u790) ((congrFun e778 59).trans (qw_r_eq.trans (congrArg (fun f => qzu f (4 : Int).toNat v775) ((congrFun e772 59).trans (qw_r_eq.trans (congrArg (fun f => qzu f (3 : Int).toNat v769) rfl))))))))))))))) _).trans hx792) ((congrFun ((congrFun e817 59).trans (qw_r_eq.trans (congrArg (fun f => qzu f (8 : Int).toNat u812) ((congrFun e803 59).trans (qw_r_eq.trans (congrArg (fun f => qzu f (6 : Int).toNat v800) ((congrFun e795 59).trans (qw_r_eq.trans (congrArg (fun f => qzu f (5 : Int).toNat u790) ((congrFun e778 59).trans (qw_r_eq.trans (congrArg (fun f => qzu f (4 : Int).toNat v775) ((congrFun e772 59).trans (qw_r_eq.trans (congrArg (fun f => qzu f (3 : Int).toNat v769) rfl))))))))))))))) _).trans (qm9_of hp799 hp801)) ((congrFun ((congrFun e817 59).trans (qw_r_eq.trans (congrArg (fun f => qzu f (8 : Int).toNat u812) ((congrFun e803 59).trans (qw_r_eq.trans (congrArg (fun f => qzu f (6 : Int).toNat v800) ((congrFun e795 59).trans (qw_r_eq.trans (congrArg (fun f => qzu f (5 : Int).toNat u790) ((congrFun e778 59).trans (qw_r_eq.trans (congrArg (fun f => qzu f (4 : Int).toNat v775) ((congrFun e772 59).trans (qw_r_eq.trans (congrArg (fun f => qzu f (3 : Int).toNat v769) rfl))))))))))))))) _).trans hx814)), (qCaN_c ((hG825.2 60 (by decide)).trans ((congrFun e817 60).trans ((qw_r_ne (by decide)).trans ((congrFun e803 60).trans ((qw_r_ne (by decide)).trans ((congrFun e795 60).trans ((qw_r_ne (by decide)).trans ((congrFun e778 60).trans ((qw_r_ne (by decide)).trans ((congrFun e772 60).trans ((qw_r_ne (by decide)).trans rfl))))))))))) ((hG825.2 61 (by decide)).trans ((congrFun e817 61).trans ((qw_r_ne (by decide)).trans ((congrFun e803 61).trans ((qw_r_ne (by decide)).trans ((congrFun e795 61).trans ((qw_r_ne (by decide)).trans ((congrFun e778 61).trans ((qw_r_ne (by decide)).trans ((congrFun e772 61).trans ((qw_r_ne (by decide)).trans rfl))))))))))) hx766), (qCaN_c ((hG825.2 62 (by decide)).trans ((congrFun e817 62).trans ((qw_r_ne (by decide)).trans ((congrFun e803 62).trans ((qw_r_ne (by decide)).trans ((congrFun e795 62).trans ((qw_r_ne (by decide)).trans ((congrFun e778 62).trans ((qw_r_ne (by decide)).trans ((congrFun e772 62).trans ((qw_r_ne (by decide)).trans rfl))))))))))) ((hG825.2 63 (by decide)).trans ((congrFun e817 63).trans ((qw_r_ne (by decide)).trans ((congrFun e803 63).trans ((qw_r_ne (by decide)).trans ((congrFun e795 63).trans ((qw_r_ne (by decide)).trans ((congrFun e778 63).trans ((qw_r_ne (by decide)).trans ((congrFun e772 63).trans ((qw_r_ne (by decide)).trans rfl))))))))))) hx767)⟩
            refine qr_icmp_ne 208 204 rfl rfl rfl (qrg r4 (by decide) (by decide)) (by decide) (fun h827 => ?_) (fun h827 => ?_)
            · skip
              refine qr_aload_n 209 rfl g785 rfl ?_
              refine qr_get 212 rfl rfl rfl (by decide) rfl ?_
              refine qr_iload_n 213 rfl g786 rfl ?_
              refine qr_iload 215 rfl g788 rfl ?_
              refine qr_callN 218 rfl rfl rfl (sf_57_23x (d := d + 2) hI804 r2 (by omega)) ?_
              rintro _ _ ⟨rfl, v828, rfl, hv828, hp829⟩
              rw [hF805.2 24 (by decide)] at hp829
              show qr_W (qe L xs vb) (d + 3) qx_e90 _ (218, _, [.int (qz v828), .int (qz 8), .ref 59], qw σ α802 κ ρ, 0, 0)
              refine qr_bipush 220 rfl (by decide) rfl ?_
              refine qr_callN 223 rfl rfl rfl (sf_12 (d := d + 2) hI804 (qrg hv828 (by decide) (by decide)) (by decide)) ?_
              rintro _ _ ⟨rfl, v830, rfl, hv830, hp831⟩
              show qr_W (qe L xs vb) (d + 3) qx_e90 _ (223, _, [.int (qz v830), .int (qz 8), .ref 59], qw σ α802 κ ρ, 0, 0)
              exact hJ815 _ v830 g785 g789 (by omega) (by rw [if_neg (by omega)]; exact qm9_of hp829 hp831)
            · skip
              refine qr_iconst 205 rfl rfl ?_
              refine qr_goto 223 rfl rfl ?_
              exact hJ815 _ 0 g785 g789 (by decide) (by rw [if_pos (by omega)])
          refine qr_if_eq 169 165 rfl rfl rfl (qrg hv783 (by decide) (by decide)) (fun h832 => ?_) (fun h832 => ?_)
          · skip
            refine qr_iconst 170 rfl rfl ?_
            exact hJ793 _ 0 g749 g750 g751 g752 g753 (by decide) (by have h1 := hp784; rw [hrv781] at h1; omega)
          · skip
            refine qr_iconst 166 rfl rfl ?_
            refine qr_goto 170 rfl rfl ?_
            exact hJ793 _ 1 g749 g750 g751 g752 g753 (by decide) (by have h1 := hp784; rw [hrv781] at h1; omega)
        refine qr_if_eq 114 97 rfl rfl rfl (qrg hv739 (by decide) (by decide)) (fun h833 => ?_) (fun h833 => ?_)
        · skip
          exact hJ768 _ α726 g719 g720 g721 g722 g724 hI727 hF728 hk729 hk730 hk731 hk732 (qAs_tr (congrFun rfl _) hx733) (qAs_tr (congrFun rfl _) hx734) (qAs_tr (congrFun rfl _) hx735) (qAs_no (by omega)) (qCaN_c rfl rfl hx736) (qCaN_c rfl rfl hx737)
        · skip
          refine qr_aload_n 98 rfl g719 rfl ?_
          refine qr_get 101 rfl rfl rfl (by decide) rfl ?_
          refine qr_bipush 103 rfl (by decide) rfl ?_
          refine qr_aload_n 104 rfl g719 rfl ?_
          refine qr_get 107 rfl rfl rfl (by decide) rfl ?_
          refine qr_iload_n 108 rfl g720 rfl ?_
          refine qr_lload 110 rfl g723 rfl ?_
          refine qr_callN 113 rfl rfl rfl (sf_95_17x (d := d + 1) hI727 r2 r5) ?_
          have hs836 : 0 ≤ σ 17 6 ∧ σ 17 6 ≤ 32 := hI727.1 17 6
          rintro _ _ ⟨rfl, v834, rfl, hv834, hp835⟩
          rw [hF728.2 18 (by decide)] at hp835
          show qr_W (qe L xs vb) (d + 3) qx_e90 _ (113, _, [.int (qz v834), .int (qz 7), .ref 59], qw σ α726 κ ρ, 0, 0)
          refine qr_iastore 114 rfl (by decide) rfl (by decide) (by decide) rfl ?_
          refine qy_wA (qw_r α726 59 (qzu (α726 59) (7 : Int).toNat v834)) rfl (fun α837 e838 => ?_)
          have hI839 : qI σ α837 κ ρ := by rw [e838]; exact qI_r hI727 59 _ rfl (show (-2147483648) ≤ v834 ∧ v834 ≤ 2147483647 by omega)
          have hF840 : qFr [] [53, 57, 59, 60, 61, 62, 63, 85] σ α σ α837 := by rw [e838]; exact qFr_r hF728 59 _ (by decide)
          exact hJ768 _ α837 g719 g720 g721 g722 g724 hI839 hF840 ((congrFun e838 18).trans ((qw_r_ne (by decide)).trans hk729)) ((congrFun e838 20).trans ((qw_r_ne (by decide)).trans hk730)) ((congrFun e838 22).trans ((qw_r_ne (by decide)).trans hk731)) ((congrFun e838 24).trans ((qw_r_ne (by decide)).trans hk732)) (qAs_tr (congrFun ((congrFun e838 59).trans (qw_r_eq.trans (congrArg (fun f => qzu f (7 : Int).toNat v834) rfl))) _) hx733) (qAs_tr (congrFun ((congrFun e838 59).trans (qw_r_eq.trans (congrArg (fun f => qzu f (7 : Int).toNat v834) rfl))) _) hx734) (qAs_tr (congrFun ((congrFun e838 59).trans (qw_r_eq.trans (congrArg (fun f => qzu f (7 : Int).toNat v834) rfl))) _) hx735) (qAs_yes ((congrFun ((congrFun e838 59).trans (qw_r_eq.trans (congrArg (fun f => qzu f (7 : Int).toNat v834) rfl))) _).trans hp835)) (qCaN_c ((congrFun e838 60).trans ((qw_r_ne (by decide)).trans rfl)) ((congrFun e838 61).trans ((qw_r_ne (by decide)).trans rfl)) hx736) (qCaN_c ((congrFun e838 62).trans ((qw_r_ne (by decide)).trans rfl)) ((congrFun e838 63).trans ((qw_r_ne (by decide)).trans rfl)) hx737)
      refine qr_if_eq 87 72 rfl rfl rfl (qrg hv700 (by decide) (by decide)) (fun h841 => ?_) (fun h841 => ?_)
      · skip
        exact hJ738 _ α688 g681 g682 g683 g684 g685 g686 hI689 hF690 hk691 hk692 hk693 hk694 (qAs_tr (congrFun rfl _) hx695) (qAs_tr (congrFun rfl _) hx696) (qAs_no (by omega)) (qCaN_c rfl rfl hx697) (qCaN_c rfl rfl hx698)
      · skip
        refine qr_aload_n 73 rfl g681 rfl ?_
        refine qr_get 76 rfl rfl rfl (by decide) rfl ?_
        refine qr_iconst 77 rfl rfl ?_
        refine qr_aload_n 78 rfl g681 rfl ?_
        refine qr_iload_n 79 rfl g682 rfl ?_
        refine qr_iload_n 80 rfl g683 rfl ?_
        have hs842 : 0 ≤ σ 34 7 ∧ σ 34 7 ≤ 60 := hI689.1 34 7
        have hs843 : (-2147483648) ≤ σ 58 11 ∧ σ 58 11 ≤ 2147483647 := hI689.1 58 11
        have hs844 : (-2147483648) ≤ σ 58 12 ∧ σ 58 12 ≤ 2147483647 := hI689.1 58 12
        refine qr_callN 83 rfl rfl rfl (sf_94_58x (d := d + 0) hI689 r2 r3 (by omega) (by rw [hF690.2 22 (by decide), hF690.2 35 (by decide), hF690.2 36 (by decide), hF690.2 37 (by decide), hF690.2 40 (by decide), hF690.2 41 (by decide)]; exact (qCaN_c rfl rfl hx698)) (qZp_fr hF690 (by decide) (by decide) p4)) ?_
        rintro _ _ ⟨α848, rfl, hI849, hG850, v845, rfl, hv845, hx846, hx847⟩
        have hF851 : qFr [] [53, 57, 59, 60, 61, 62, 63, 85] σ α σ α848 := qFr_t hF690 hG850 (by decide) (by decide)
        rw [hF690.2 22 (by decide), hF690.2 35 (by decide), hF690.2 36 (by decide), hF690.2 37 (by decide), hF690.2 40 (by decide), hF690.2 41 (by decide)] at hx846
        rw [hF690.2 22 (by decide), hF690.2 35 (by decide), hF690.2 36 (by decide), hF690.2 37 (by decide), hF690.2 40 (by decide), hF690.2 41 (by decide)] at hx847
        show qr_W (qe L xs vb) (d + 3) qx_e90 _ (83, _, [.long (ql v845), .int (qz 2), .ref 59], qw σ α848 κ ρ, 0, 0)
        refine qr_callN 86 rfl rfl rfl (sf_74c (d := d + 2) hI849 hv845) ?_
        rintro _ _ ⟨rfl, v852, rfl, hv852, hp853⟩
        show qr_W (qe L xs vb) (d + 3) qx_e90 _ (86, _, [.int (qz v852), .int (qz 2), .ref 59], qw σ α848 κ ρ, 0, 0)
        refine qr_iastore 87 rfl (by decide) rfl (by decide) (by decide) rfl ?_
        refine qy_wA (qw_r α848 59 (qzu (α848 59) (2 : Int).toNat v852)) rfl (fun α854 e855 => ?_)
        have hI856 : qI σ α854 κ ρ := by rw [e855]; exact qI_r hI849 59 _ rfl (show (-2147483648) ≤ v852 ∧ v852 ≤ 2147483647 by omega)
        have hF857 : qFr [] [53, 57, 59, 60, 61, 62, 63, 85] σ α σ α854 := by rw [e855]; exact qFr_r hF851 59 _ (by decide)
        exact hJ738 _ α854 g681 g682 g683 g684 g685 g686 hI856 hF857 ((congrFun e855 18).trans ((qw_r_ne (by decide)).trans ((hG850.2 18 (by decide)).trans hk691))) ((congrFun e855 20).trans ((qw_r_ne (by decide)).trans ((hG850.2 20 (by decide)).trans hk692))) ((congrFun e855 22).trans ((qw_r_ne (by decide)).trans ((hG850.2 22 (by decide)).trans hk693))) ((congrFun e855 24).trans ((qw_r_ne (by decide)).trans ((hG850.2 24 (by decide)).trans hk694))) (qAs_tr (congrFun ((congrFun e855 59).trans (qw_r_eq.trans (congrArg (fun f => qzu f (2 : Int).toNat v852) ((hG850.2 59 (by decide)).trans rfl)))) _) hx695) (qAs_tr (congrFun ((congrFun e855 59).trans (qw_r_eq.trans (congrArg (fun f => qzu f (2 : Int).toNat v852) ((hG850.2 59 (by decide)).trans rfl)))) _) hx696) (qAs_yes ((congrFun ((congrFun e855 59).trans (qw_r_eq.trans (congrArg (fun f => qzu f (2 : Int).toNat v852) ((hG850.2 59 (by decide)).trans rfl)))) _).trans (by rw [hp853, hx846]; exact qhd_cn (fun k => qho_01 _ _ _ _ _ _ _ _ _ _ _) (by omega) _))) (qCaN_c ((congrFun e855 60).trans ((qw_r_ne (by decide)).trans ((hG850.2 60 (by decide)).trans rfl))) ((congrFun e855 61).trans ((qw_r_ne (by decide)).trans ((hG850.2 61 (by decide)).trans rfl))) hx697) (qCaN_c ((congrFun e855 62).trans ((qw_r_ne (by decide)).trans rfl)) ((congrFun e855 63).trans ((qw_r_ne (by decide)).trans rfl)) hx847)
    refine qr_if_ne 26 17 rfl rfl rfl (qrg hv621 (by decide) (by decide)) (fun h858 => ?_) (fun h858 => ?_)
    · skip
      refine qr_aload_n 27 rfl rfl rfl ?_
      refine qr_iload_n 28 rfl rfl rfl ?_
      refine qr_iload_n 29 rfl rfl rfl ?_
      have hs859 : (-9223372036854775808) ≤ σ 27 6 ∧ σ 27 6 ≤ 9223372036854775807 := hI.1 27 6
      have hs860 : 0 ≤ σ 27 7 ∧ σ 27 7 ≤ 40 := hI.1 27 7
      have hs861 : (-2147483648) ≤ σ 58 11 ∧ σ 58 11 ≤ 2147483647 := hI.1 58 11
      have hs862 : (-2147483648) ≤ σ 58 12 ∧ σ 58 12 ≤ 2147483647 := hI.1 58 12
      refine qr_callN 32 rfl rfl rfl (sf_92_58x (d := d + 0) hI r2 r3 (by omega) (qCaN_c rfl rfl p2)) ?_
      rintro _ _ ⟨α866, rfl, hI867, hG868, v863, rfl, hv863, hx864, hx865⟩
      have hF869 : qFr [] [53, 57, 59, 60, 61, 62, 63, 85] σ α σ α866 := qFr_t hF0 hG868 (by decide) (by decide)
      show qr_W (qe L xs vb) (d + 3) qx_e90 _ (32, _, [.int (qz v863)], qw σ α866 κ ρ, 0, 0)
      refine qr_bipush 34 rfl (by decide) rfl ?_
      refine qr_idiv 35 rfl (qrg hv863 (by decide) (by decide)) (by decide) rfl ?_
      refine qr_istore _ 37 rfl (by decide) rfl rfl ?_
      refine qr_aload_n 38 rfl rfl rfl ?_
      refine qr_get 41 rfl rfl rfl (by decide) rfl ?_
      refine qr_iconst 42 rfl rfl ?_
      refine qr_iload 44 rfl rfl rfl ?_
      refine qr_bipush 46 rfl (by decide) rfl ?_
      have hJ880 : ∀ (ls : qm_L) (u877 : Int), qm_get ls 0 = some (.ref 58) → qm_get ls 2 = some (.int (qz x2)) → qm_get ls 3 = some (.int (qz x3)) → qm_get ls 4 = some (.int (qz x4)) → qm_get ls 5 = some (.long (ql x5)) → qm_get ls 7 = some (.ref 82) → qm_get ls 8 = some (.int (qz (v863 / 64))) → (0 ≤ u877 ∧ u877 ≤ 1) → u877 = qnF1 (qnF (qTb (α 24)) (α 28) (α 29) (α 31) (α 30) (α 33) (σ 27 6) (σ 27 7) x2 x3 (σ 58 11)) → qr_W (qe L xs vb) (d + 3) qx_e90 (fun r w' => ∃ α', w' = qw σ α' κ ρ ∧ qI σ α' κ ρ ∧ qFr [] [53, 57, 59, 60, 61, 62, 63, 85] σ α σ α' ∧ ∃ v : Int, r = some (.int (qz v)) ∧ ((-2147483648) ≤ v ∧ v ≤ 2147483647) ∧ v = f (qNVc σ α (σ 58 10) x2 x3 x4 x5) ∧ qCaN (α' 60) (α' 61) (σ 58 12) (fun p q => qnF (qTb (α 24)) (α 28) (α 29) (α 31) (α 30) (α 33) (σ 27 6) (σ 27 7) p q (σ 58 11)) ∧ qCaN (α' 62) (α' 63) (σ 58 12) (fun p q => qbs (qhF (α 35) (α 36) (α 37) (α 40) (qcv (α 41)) (qlw (α 22)) p q (σ 58 11)) (σ 34 7 : Int).toNat)) (54, ls, [.int (qz u877), .int (qz 0), .ref 59], qw σ α866 κ ρ, 0, 0) := by
        intro ls u877 g870 g871 g872 g873 g874 g875 g876 hf878 hx879
        refine qr_iastore 55 rfl (by decide) rfl (by decide) (by decide) rfl ?_
        refine qy_wA (qw_r α866 59 (qzu (α866 59) (0 : Int).toNat u877)) rfl (fun α881 e882 => ?_)
        have hI883 : qI σ α881 κ ρ := by rw [e882]; exact qI_r hI867 59 _ rfl (show (-2147483648) ≤ u877 ∧ u877 ≤ 2147483647 by omega)
        have hF884 : qFr [] [53, 57, 59, 60, 61, 62, 63, 85] σ α σ α881 := by rw [e882]; exact qFr_r hF869 59 _ (by decide)
        refine qr_aload_n 56 rfl g870 rfl ?_
        refine qr_get 59 rfl rfl rfl (by decide) rfl ?_
        refine qr_iconst 60 rfl rfl ?_
        refine qr_iload 62 rfl g876 rfl ?_
        refine qr_iastore 63 rfl (by decide) rfl (by decide) (by decide) rfl ?_
        refine qy_wA (qw_r α881 59 (qzu (α881 59) (1 : Int).toNat (v863 / 64))) rfl (fun α885 e886 => ?_)
        have hI887 : qI σ α885 κ ρ := by rw [e886]; exact qI_r hI883 59 _ rfl (show (-2147483648) ≤ (v863 / 64) ∧ (v863 / 64) ≤ 2147483647 by omega)
        have hF888 : qFr [] [53, 57, 59, 60, 61, 62, 63, 85] σ α σ α885 := by rw [e886]; exact qFr_r hF884 59 _ (by decide)
        exact hJ699 _ α885 g870 g871 g872 g873 g874 g875 hI887 hF888 ((congrFun e886 18).trans ((qw_r_ne (by decide)).trans ((congrFun e882 18).trans ((qw_r_ne (by decide)).trans ((hG868.2 18 (by decide)).trans rfl))))) ((congrFun e886 20).trans ((qw_r_ne (by decide)).trans ((congrFun e882 20).trans ((qw_r_ne (by decide)).trans ((hG868.2 20 (by decide)).trans rfl))))) ((congrFun e886 22).trans ((qw_r_ne (by decide)).trans ((congrFun e882 22).trans ((qw_r_ne (by decide)).trans ((hG868.2 22 (by decide)).trans rfl))))) ((congrFun e886 24).trans ((qw_r_ne (by decide)).trans ((congrFun e882 24).trans ((qw_r_ne (by decide)).trans ((hG868.2 24 (by decide)).trans rfl))))) (qAs_yes ((congrFun ((congrFun e886 59).trans (qw_r_eq.trans (congrArg (fun f => qzu f (1 : Int).toNat (v863 / 64)) ((congrFun e882 59).trans (qw_r_eq.trans (congrArg (fun f => qzu f (0 : Int).toNat u877) ((hG868.2 59 (by decide)).trans rfl))))))) _).trans hx879)) (qAs_yes ((congrFun ((congrFun e886 59).trans (qw_r_eq.trans (congrArg (fun f => qzu f (1 : Int).toNat (v863 / 64)) ((congrFun e882 59).trans (qw_r_eq.trans (congrArg (fun f => qzu f (0 : Int).toNat u877) ((hG868.2 59 (by decide)).trans rfl))))))) _).trans (congrArg (fun t : Int => t / 64) hx864))) (qCaN_c ((congrFun e886 60).trans ((qw_r_ne (by decide)).trans ((congrFun e882 60).trans ((qw_r_ne (by decide)).trans rfl)))) ((congrFun e886 61).trans ((qw_r_ne (by decide)).trans ((congrFun e882 61).trans ((qw_r_ne (by decide)).trans rfl)))) hx865) (qCaN_c ((congrFun e886 62).trans ((qw_r_ne (by decide)).trans ((congrFun e882 62).trans ((qw_r_ne (by decide)).trans ((hG868.2 62 (by decide)).trans rfl))))) ((congrFun e886 63).trans ((qw_r_ne (by decide)).trans ((congrFun e882 63).trans ((qw_r_ne (by decide)).trans ((hG868.2 63 (by decide)).trans rfl))))) p3)
      refine qr_icmp_ge 53 49 rfl rfl rfl (by omega) (by decide) (fun h889 => ?_) (fun h889 => ?_)
      · skip
        refine qr_iconst 54 rfl rfl ?_
        exact hJ880 _ 0 rfl rfl rfl rfl rfl rfl rfl (by decide) (by rw [← hx864]; unfold qnF1; rw [if_neg (by omega)])
      · skip
        refine qr_iconst 50 rfl rfl ?_
        refine qr_goto 54 rfl rfl ?_
        exact hJ880 _ 1 rfl rfl rfl rfl rfl rfl rfl (by decide) (by rw [← hx864]; unfold qnF1; rw [if_pos (by omega)])
    · skip
      refine qr_aload 19 rfl rfl rfl ?_
      refine qr_iconst 20 rfl rfl ?_
      refine qr_callN 23 rfl rfl rfl (sf_91_82x (d := d + 1) hI (by decide)) ?_
      have hs892 : (-2147483648) ≤ σ 82 6 ∧ σ 82 6 ≤ 2147483647 := hI.1 82 6
      rintro _ _ ⟨rfl, v890, rfl, hv890, hp891⟩
      show qr_W (qe L xs vb) (d + 3) qx_e90 _ (23, _, [.int (qz v890)], qw σ α κ ρ, 0, 0)
      refine qr_if_eq 63 26 rfl rfl rfl (qrg hv890 (by decide) (by decide)) (fun h893 => ?_) (fun h893 => ?_)
      · skip
        exact hJ699 _ α rfl rfl rfl rfl rfl rfl hI hF0 rfl rfl rfl rfl (qAs_no (by omega)) (qAs_no (by omega)) (qCaN_c rfl rfl p2) (qCaN_c rfl rfl p3)
      · skip
        refine qr_aload_n 27 rfl rfl rfl ?_
        refine qr_iload_n 28 rfl rfl rfl ?_
        refine qr_iload_n 29 rfl rfl rfl ?_
        have hs894 : (-9223372036854775808) ≤ σ 27 6 ∧ σ 27 6 ≤ 9223372036854775807 := hI.1 27 6
        have hs895 : 0 ≤ σ 27 7 ∧ σ 27 7 ≤ 40 := hI.1 27 7
        have hs896 : (-2147483648) ≤ σ 58 11 ∧ σ 58 11 ≤ 2147483647 := hI.1 58 11
        have hs897 : (-2147483648) ≤ σ 58 12 ∧ σ 58 12 ≤ 2147483647 := hI.1 58 12
        refine qr_callN 32 rfl rfl rfl (sf_92_58x (d := d + 0) hI r2 r3 (by omega) (qCaN_c rfl rfl p2)) ?_
        rintro _ _ ⟨α901, rfl, hI902, hG903, v898, rfl, hv898, hx899, hx900⟩
        have hF904 : qFr [] [53, 57, 59, 60, 61, 62, 63, 85] σ α σ α901 := qFr_t hF0 hG903 (by decide) (by decide)
        show qr_W (qe L xs vb) (d + 3) qx_e90 _ (32, _, [.int (qz v898)], qw σ α901 κ ρ, 0, 0)
        refine qr_bipush 34 rfl (by decide) rfl ?_
        refine qr_idiv 35 rfl (qrg hv898 (by decide) (by decide)) (by decide) rfl ?_
        refine qr_istore _ 37 rfl (by decide) rfl rfl ?_
        refine qr_aload_n 38 rfl rfl rfl ?_
        refine qr_get 41 rfl rfl rfl (by decide) rfl ?_
        refine qr_iconst 42 rfl rfl ?_
        refine qr_iload 44 rfl rfl rfl ?_
        refine qr_bipush 46 rfl (by decide) rfl ?_
        have hJ915 : ∀ (ls : qm_L) (u912 : Int), qm_get ls 0 = some (.ref 58) → qm_get ls 2 = some (.int (qz x2)) → qm_get ls 3 = some (.int (qz x3)) → qm_get ls 4 = some (.int (qz x4)) → qm_get ls 5 = some (.long (ql x5)) → qm_get ls 7 = some (.ref 82) → qm_get ls 8 = some (.int (qz (v898 / 64))) → (0 ≤ u912 ∧ u912 ≤ 1) → u912 = qnF1 (qnF (qTb (α 24)) (α 28) (α 29) (α 31) (α 30) (α 33) (σ 27 6) (σ 27 7) x2 x3 (σ 58 11)) → qr_W (qe L xs vb) (d + 3) qx_e90 (fun r w' => ∃ α', w' = qw σ α' κ ρ ∧ qI σ α' κ ρ ∧ qFr [] [53, 57, 59, 60, 61, 62, 63, 85] σ α σ α' ∧ ∃ v : Int, r = some (.int (qz v)) ∧ ((-2147483648) ≤ v ∧ v ≤ 2147483647) ∧ v = f (qNVc σ α (σ 58 10) x2 x3 x4 x5) ∧ qCaN (α' 60) (α' 61) (σ 58 12) (fun p q => qnF (qTb (α 24)) (α 28) (α 29) (α 31) (α 30) (α 33) (σ 27 6) (σ 27 7) p q (σ 58 11)) ∧ qCaN (α' 62) (α' 63) (σ 58 12) (fun p q => qbs (qhF (α 35) (α 36) (α 37) (α 40) (qcv (α 41)) (qlw (α 22)) p q (σ 58 11)) (σ 34 7 : Int).toNat)) (54, ls, [.int (qz u912), .int (qz 0), .ref 59], qw σ α901 κ ρ, 0, 0) := by
          intro ls u912 g905 g906 g907 g908 g909 g910 g911 hf913 hx914
          refine qr_iastore 55 rfl (by decide) rfl (by decide) (by decide) rfl ?_
          refine qy_wA (qw_r α901 59 (qzu (α901 59) (0 : Int).toNat u912)) rfl (fun α916 e917 => ?_)
          have hI918 : qI σ α916 κ ρ := by rw [e917]; exact qI_r hI902 59 _ rfl (show (-2147483648) ≤ u912 ∧ u912 ≤ 2147483647 by omega)
          have hF919 : qFr [] [53, 57, 59, 60, 61, 62, 63, 85] σ α σ α916 := by rw [e917]; exact qFr_r hF904 59 _ (by decide)
          refine qr_aload_n 56 rfl g905 rfl ?_
          refine qr_get 59 rfl rfl rfl (by decide) rfl ?_
          refine qr_iconst 60 rfl rfl ?_
          refine qr_iload 62 rfl g911 rfl ?_
          refine qr_iastore 63 rfl (by decide) rfl (by decide) (by decide) rfl ?_
          refine qy_wA (qw_r α916 59 (qzu (α916 59) (1 : Int).toNat (v898 / 64))) rfl (fun α920 e921 => ?_)
          have hI922 : qI σ α920 κ ρ := by rw [e921]; exact qI_r hI918 59 _ rfl (show (-2147483648) ≤ (v898 / 64) ∧ (v898 / 64) ≤ 2147483647 by omega)
          have hF923 : qFr [] [53, 57, 59, 60, 61, 62, 63, 85] σ α σ α920 := by rw [e921]; exact qFr_r hF919 59 _ (by decide)
          exact hJ699 _ α920 g905 g906 g907 g908 g909 g910 hI922 hF923 ((congrFun e921 18).trans ((qw_r_ne (by decide)).trans ((congrFun e917 18).trans ((qw_r_ne (by decide)).trans ((hG903.2 18 (by decide)).trans rfl))))) ((congrFun e921 20).trans ((qw_r_ne (by decide)).trans ((congrFun e917 20).trans ((qw_r_ne (by decide)).trans ((hG903.2 20 (by decide)).trans rfl))))) ((congrFun e921 22).trans ((qw_r_ne (by decide)).trans ((congrFun e917 22).trans ((qw_r_ne (by decide)).trans ((hG903.2 22 (by decide)).trans rfl))))) ((congrFun e921 24).trans ((qw_r_ne (by decide)).trans ((congrFun e917 24).trans ((qw_r_ne (by decide)).trans ((hG903.2 24 (by decide)).trans rfl))))) (qAs_yes ((congrFun ((congrFun e921 59).trans (qw_r_eq.trans (congrArg (fun f => qzu f (1 : Int).toNat (v898 / 64)) ((congrFun e917 59).trans (qw_r_eq.trans (congrArg (fun f => qzu f (0 : Int).toNat u912) ((hG903.2 59 (by decide)).trans rfl))))))) _).trans hx914)) (qAs_yes ((congrFun ((congrFun e921 59).trans (qw_r_eq.trans (congrArg (fun f => qzu f (1 : Int).toNat (v898 / 64)) ((congrFun e917 59).trans (qw_r_eq.trans (congrArg (fun f => qzu f (0 : Int).toNat u912) ((hG903.2 59 (by decide)).trans rfl))))))) _).trans (congrArg (fun t : Int => t / 64) hx899))) (qCaN_c ((congrFun e921 60).trans ((qw_r_ne (by decide)).trans ((congrFun e917 60).trans ((qw_r_ne (by decide)).trans rfl)))) ((congrFun e921 61).trans ((qw_r_ne (by decide)).trans ((congrFun e917 61).trans ((qw_r_ne (by decide)).trans rfl)))) hx900) (qCaN_c ((congrFun e921 62).trans ((qw_r_ne (by decide)).trans ((congrFun e917 62).trans ((qw_r_ne (by decide)).trans ((hG903.2 62 (by decide)).trans rfl))))) ((congrFun e921 63).trans ((qw_r_ne (by decide)).trans ((congrFun e917 63).trans ((qw_r_ne (by decide)).trans ((hG903.2 63 (by decide)).trans rfl))))) p3)
        refine qr_icmp_ge 53 49 rfl rfl rfl (by omega) (by decide) (fun h924 => ?_) (fun h924 => ?_)
        · skip
          refine qr_iconst 54 rfl rfl ?_
          exact hJ915 _ 0 rfl rfl rfl rfl rfl rfl rfl (by decide) (by rw [← hx899]; unfold qnF1; rw [if_neg (by omega)])
        · skip
          refine qr_iconst 50 rfl rfl ?_
          refine qr_goto 54 rfl rfl ?_
          exact hJ915 _ 1 rfl rfl rfl rfl rfl rfl rfl (by decide) (by rw [← hx899]; unfold qnF1; rw [if_pos (by omega)])
end
section
/-! what a custom gives for two: the reference -/
def qshD (ld : Nat → Int) (p t de ad : Int) (r : Nat) : Int := if qbit t (r : Int) = 1 ∧ (¬ ad = 0 ∨ qbit de (r : Int) = 0) ∧ ((r : Int) = p ∨ (0 ≤ ld p.toNat ∧ ld r = ld p.toNat)) then 1 else 0
theorem qshD_c (ld : Nat → Int) (p t de ad : Int) {i : Int} (h : 0 ≤ i) : (qshD ld p t de ad i.toNat = 1 ∧ qbit t i = 1 ∧ (¬ ad = 0 ∨ qbit de i = 0) ∧ (i = p ∨ (0 ≤ ld p.toNat ∧ ld i.toNat = ld p.toNat))) ∨ (qshD ld p t de ad i.toNat = 0 ∧ ¬ (qbit t i = 1 ∧ (¬ ad = 0 ∨ qbit de i = 0) ∧ (i = p ∨ (0 ≤ ld p.toNat ∧ ld i.toNat = ld p.toNat)))) := by
  have e : ((i.toNat : Nat) : Int) = i := by omega
  unfold qshD
  rw [e]
  by_cases c : qbit t i = 1 ∧ (¬ ad = 0 ∨ qbit de i = 0) ∧ (i = p ∨ (0 ≤ ld p.toNat ∧ ld i.toNat = ld p.toNat))
  · exact Or.inl ⟨if_pos c, c⟩
  · exact Or.inr ⟨if_neg c, c⟩
theorem qshD_01 (ld : Nat → Int) (p t de ad : Int) (r : Nat) : 0 ≤ qshD ld p t de ad r ∧ qshD ld p t de ad r ≤ 1 := by
  unfold qshD
  split <;> omega
def qdf (u : Int) (N : Nat → Int) : Int := if u = 0 then (if N 0 = 1 ∧ N 2 = 0 then 1 else 0) else (if N 8 < 2 ∧ N 3 = 1 then 1 else 0)
theorem qnk_le (o c : Nat → Int) : ∀ n : Nat, qnk o c n ≤ 576
  | 0 => Int.le_refl _
  | n + 1 => by
    have h := qnk_le o c n
    show (if o n = 1 ∧ c n * 64 + (n : Int) < qnk o c n then c n * 64 + (n : Int) else qnk o c n) ≤ 576
    split <;> omega
theorem qnF_le (D : Int → Int → Int) (kd kr bd sn pd : Nat → Int) (st n p q h : Int) : qnF D kd kr bd sn pd st n p q h ≤ 576 := qnk_le _ _ _
theorem qzu_2 {f : Nat → Int} {k : Nat} {a b c : Int} (h : b = c) : qzu (qzu f k a) k b = qzu f k c := by
  funext j
  unfold qzu
  split
  · exact h
  · rfl
theorem qm9_v {v w : Int} (h : (v = 9 ∧ w = 99) ∨ (v = w ∧ w ≤ 9)) : v = qm9 w := by
  unfold qm9
  split <;> omega
theorem qgo_v {g : (Nat → Int) → Int} {N N' : Nat → Int} (hg : ∀ N N' : Nat → Int, (∀ k : Nat, k < 9 → N k = N' k) → g N = g N') (h0 : N 0 = N' 0) (h1 : N 1 = N' 1) (h2 : N 2 = N' 2) (h3 : N 3 = N' 3) (h4 : N 4 = N' 4) (h5 : N 5 = N' 5) (h6 : N 6 = N' 6) (h7 : N 7 = N' 7) (h8 : N 8 = N' 8) : g N = g N' := by
  refine hg N N' (fun k hk => ?_)
  have h : k = 0 ∨ k = 1 ∨ k = 2 ∨ k = 3 ∨ k = 4 ∨ k = 5 ∨ k = 6 ∨ k = 7 ∨ k = 8 := by omega
  rcases h with rfl | rfl | rfl | rfl | rfl | rfl | rfl | rfl | rfl
  · exact h0
  · exact h1
  · exact h2
  · exact h3
  · exact h4
  · exact h5
  · exact h6
  · exact h7
  · exact h8
def qPG (σ α : Nat → Nat → Int) (u : Int) (g : (Nat → Int) → Int) : Prop := (∀ N : Nat → Int, (0 ≤ α 108 u.toNat → (qtx_W (fun j => α 107 ((120 * u).toNat + j)) (α 108 u.toNat) N).2.2 = 0 ∧ (qtx_W (fun j => α 107 ((120 * u).toNat + j)) (α 108 u.toNat) N).1 = g N) ∧ (α 108 u.toNat < 0 → qdf u N = g N)) ∧ ∀ N N' : Nat → Int, (∀ k : Nat, k < 9 → N k = N' k) → g N = g N'
theorem qPG_fr {S : List (Nat × Nat)} {R : List Nat} {σ α σ' α' : Nat → Nat → Int} {u : Int} {g : (Nat → Int) → Int} (hG : qFr S R σ α σ' α') (hs : ([] : List (Nat × Nat)).all (fun x => !S.contains x) = true) (hr : [107, 108].all (fun x => !R.contains x) = true) (h : qPG σ α u g) : qPG σ' α' u g := by
  have es : ∀ a k, (a, k) ∈ ([] : List (Nat × Nat)) → σ' a k = σ a k := fun a k hm => hG.1 a k (fun hn => by
    have h1 := List.all_eq_true.mp hs (a, k) hm
    rw [List.contains_iff_mem.mpr hn] at h1
    exact absurd h1 (by decide))
  have er : ∀ a, a ∈ [107, 108] → α' a = α a := fun a hm => hG.2 a (fun hn => by
    have h1 := List.all_eq_true.mp hr a hm
    rw [List.contains_iff_mem.mpr hn] at h1
    exact absurd h1 (by decide))
  unfold qPG
  rw [er 107 (by decide), er 108 (by decide)]
  exact h
noncomputable def qNVr (σ α : Nat → Nat → Int) (b de p q st th h : Int) : Nat → Int := qnv (qnF1 (qnF (qd9 (α 94) (α 95) (σ 86 11)) (α 97) (α 98) (α 100) (α 99) (qsh (α 87) 32) (σ 86 22) (σ 86 16) p q h)) (qnF (qd9 (α 94) (α 95) (σ 86 11)) (α 97) (α 98) (α 100) (α 99) (qsh (α 87) 32) (σ 86 22) (σ 86 16) p q h / 64) (qsm (qhG b (qhF (qsh (α 87) 192) (α 102) (α 103) (qun (α 104) (α 105) (qsh (α 87) 192)) (qcw (α 87)) (qll (α 91)) p q h)) (σ 86 24 : Int).toNat) (α 87 (p : Int).toNat) (α 87 (q : Int).toNat) (qll (α 91) (α 91 (p : Int).toNat) q) (qm9 (qd9 (α 94) (α 95) (σ 86 11) p q)) (qsm (qshD (α 91) p th de (σ 86 41)) (σ 86 6 : Int).toNat) (if st = -1 then 0 else qm9 (qd9 (α 94) (α 95) (σ 86 11) p st))
theorem qNVr_fr {S : List (Nat × Nat)} {R : List Nat} {σ α σ' α' : Nat → Nat → Int} (hG : qFr S R σ α σ' α') (hs : [(86, 6), (86, 11), (86, 16), (86, 22), (86, 24), (86, 41)].all (fun x => !S.contains x) = true) (hr : [87, 91, 94, 95, 97, 98, 99, 100, 102, 103, 104, 105].all (fun x => !R.contains x) = true) : qNVr σ' α' = qNVr σ α := by
  have es : ∀ a k, (a, k) ∈ [(86, 6), (86, 11), (86, 16), (86, 22), (86, 24), (86, 41)] → σ' a k = σ a k := fun a k hm => hG.1 a k (fun hn => by
    have h1 := List.all_eq_true.mp hs (a, k) hm
    rw [List.contains_iff_mem.mpr hn] at h1
    exact absurd h1 (by decide))
  have er : ∀ a, a ∈ [87, 91, 94, 95, 97, 98, 99, 100, 102, 103, 104, 105] → α' a = α a := fun a hm => hG.2 a (fun hn => by
    have h1 := List.all_eq_true.mp hr a hm
    rw [List.contains_iff_mem.mpr hn] at h1
    exact absurd h1 (by decide))
  unfold qNVr
  rw [es 86 6 (by decide), es 86 11 (by decide), es 86 16 (by decide), es 86 22 (by decide), es 86 24 (by decide), es 86 41 (by decide), er 87 (by decide), er 91 (by decide), er 94 (by decide), er 95 (by decide), er 97 (by decide), er 98 (by decide), er 99 (by decide), er 100 (by decide), er 102 (by decide), er 103 (by decide), er 104 (by decide), er 105 (by decide)]

set_option maxHeartbeats 4000000 in
set_option maxRecDepth 20000 in
/-- OneRoofModel.isDead -/
theorem sf_181_86x {L : Nat} {xs : Nat → Int} {vb : Bool} {d : Nat} {σ α : Nat → Nat → Int} {κ : Nat → Option Nat} {ρ : Nat} {x1 : Int} (hI : qI σ α κ ρ) (r1 : 0 ≤ x1 ∧ x1 ≤ 31) : qm_T (qe L xs vb) (d + 1) 181 [.ref 86, .int (qz x1)] (qw σ α κ ρ) (fun r w' => w' = qw σ α κ ρ ∧ ∃ v : Int, r = some (.int (qz v)) ∧ (0 ≤ v ∧ v ≤ 1) ∧ v = qbit (σ 86 10) x1) := by
  refine qr_start (d := d + 0) qv_e181 (Nat.le_of_ble_eq_true rfl) ?_
  show qr_W (qe L xs vb) (d + 0) qx_e181 _ (0, [(0, .ref 86), (1, .int (qz x1))], [], _, 0, 0)
  have hz86_10 : (-9223372036854775808) ≤ σ 86 10 ∧ σ 86 10 ≤ 9223372036854775807 := hI.1 86 10
  refine qr_aload_n 1 rfl rfl rfl ?_
  refine qr_get 4 rfl rfl rfl (by decide) rfl ?_
  refine qr_iload_n 5 rfl rfl rfl ?_
  refine qr_lshr 6 rfl rfl ?_
  refine qy_canlE (fun v1 hv1 hev1 => ?_)
  refine qr_lconst 7 rfl rfl ?_
  refine qy_vl 1 rfl ?_
  refine qr_land 8 rfl rfl ?_
  refine qy_canlE (fun v2 hv2 hev2 => ?_)
  refine qr_lconst 9 rfl rfl ?_
  refine qy_vl 1 rfl ?_
  refine qr_lc_ne 17 13 rfl rfl rfl rfl hv2 (by decide) (fun h3 => ?_) (fun h3 => ?_)
  · skip
    refine qr_iconst 18 rfl rfl ?_
    refine qr_retZ rfl rfl (Or.inl rfl) (by decide) (by decide) ?_
    exact ⟨rfl, 0, rfl, (by decide), (by have hq0 := qbit_inS (t := (σ 86 10)) (i := x1) (by omega) (by omega) hev1 hev2; omega)⟩
  · skip
    refine qr_iconst 14 rfl rfl ?_
    refine qr_goto 18 rfl rfl ?_
    refine qr_retZ rfl rfl (Or.inr rfl) (by decide) (by decide) ?_
    exact ⟨rfl, 1, rfl, (by decide), (by have hq0 := qbit_inS (t := (σ 86 10)) (i := x1) (by omega) (by omega) hev1 hev2; omega)⟩

set_option maxHeartbeats 4000000 in
set_option maxRecDepth 20000 in
/-- OneRoofModel.gives -/
theorem sf_228_86x {L : Nat} {xs : Nat → Int} {vb : Bool} {d : Nat} {σ α : Nat → Nat → Int} {κ : Nat → Option Nat} {ρ : Nat} {x1 : Int} {x2 : Int} {x3 : Int} {x4 : Int} {x5 : Int} {x6 : Int} {g : (Nat → Int) → Int} (hI : qI σ α κ ρ) (r1 : 0 ≤ x1 ∧ x1 ≤ 1) (r2 : 0 ≤ x2 ∧ x2 ≤ 31) (r3 : 0 ≤ x3 ∧ x3 ≤ 31) (r4 : (-1) ≤ x4 ∧ x4 ≤ 31) (r5 : (-9223372036854775808) ≤ x5 ∧ x5 ≤ 9223372036854775807) (r6 : (-2147483648) ≤ x6 ∧ x6 ≤ 2147483647) (p0 : ¬ x2 = x3) (p1 : qPG σ α x1 g) (p2 : qZf σ α) (p3 : qZk σ α) (p4 : x2 < σ 86 6 ∧ x3 < σ 86 6 ∧ x4 < σ 86 6) : qm_T (qe L xs vb) (d + 46) 228 [.ref 86, .int (qz x1), .int (qz x2), .int (qz x3), .int (qz x4), .long (ql x5), .int (qz x6)] (qw σ α κ ρ) (fun r w' => ∃ σ' α', w' = qw σ' α' κ ρ ∧ qI σ' α' κ ρ ∧ qFr [(86, 15), (86, 23), (86, 30), (86, 35), (86, 36), (86, 37), (86, 38), (86, 39)] [96, 109] σ α σ' α' ∧ ∃ v : Int, r = some (.int (qz v)) ∧ ((-2147483648) ≤ v ∧ v ≤ 2147483647) ∧ v = g (qNVr σ α (σ 86 29) (σ 86 10) x2 x3 x4 x5 x6)) := by
  refine qr_start (d := d + 45) qv_e228 (Nat.le_of_ble_eq_true rfl) ?_
  show qr_W (qe L xs vb) (d + 45) qx_e228 _ (0, [(0, .ref 86), (1, .int (qz x1)), (2, .int (qz x2)), (3, .int (qz x3)), (4, .int (qz x4)), (5, .long (ql x5)), (7, .int (qz x6))], [], _, 0, 0)
  have hF0 := qFr_rf [(86, 15), (86, 23), (86, 30), (86, 35), (86, 36), (86, 37), (86, 38), (86, 39)] [96, 109] σ α
  have hz86_6 : 0 ≤ σ 86 6 ∧ σ 86 6 ≤ 32 := hI.1 86 6
  have hz86_10 : (-9223372036854775808) ≤ σ 86 10 ∧ σ 86 10 ≤ 9223372036854775807 := hI.1 86 10
  have hz86_11 : 0 ≤ σ 86 11 ∧ σ 86 11 ≤ 61 := hI.1 86 11
  have hz86_16 : 0 ≤ σ 86 16 ∧ σ 86 16 ≤ 40 := hI.1 86 16
  have hz86_22 : (-9223372036854775808) ≤ σ 86 22 ∧ σ 86 22 ≤ 9223372036854775807 := hI.1 86 22
  have hz86_24 : 0 ≤ σ 86 24 ∧ σ 86 24 ≤ 60 := hI.1 86 24
  have hz86_29 : (-9223372036854775808) ≤ σ 86 29 ∧ σ 86 29 ≤ 9223372036854775807 := hI.1 86 29
  have hz86_41 : 0 ≤ σ 86 41 ∧ σ 86 41 ≤ 1 := hI.1 86 41
  refine qr_aload_n 1 rfl rfl rfl ?_
  refine qr_iload_n 2 rfl rfl rfl ?_
  refine qr_iload_n 3 rfl rfl rfl ?_
  refine qr_iload 5 rfl rfl rfl ?_
  have hs1 : 0 ≤ σ 86 6 ∧ σ 86 6 ≤ 32 := hI.1 86 6
  refine qr_callN 8 rfl rfl rfl (sf_195_86x (d := d + 40) hI r2 r3 r6 (qZf_fr hF0 (by decide) (by decide) p2) (by omega)) ?_
  have hs4 : 0 ≤ σ 86 11 ∧ σ 86 11 ≤ 61 := hI.1 86 11
  have hs5 : 0 ≤ σ 86 16 ∧ σ 86 16 ≤ 40 := hI.1 86 16
  have hs6 : (-9223372036854775808) ≤ σ 86 22 ∧ σ 86 22 ≤ 9223372036854775807 := hI.1 86 22
  rintro _ _ ⟨σ7, α8, rfl, hI9, hG10, v2, rfl, hv2, hp3⟩
  have hF11 : qFr [(86, 15), (86, 23), (86, 30), (86, 35), (86, 36), (86, 37), (86, 38), (86, 39)] [96, 109] σ α σ7 α8 := qFr_t hF0 hG10 (by decide) (by decide)
  have hs12 : (-2147483648) ≤ σ7 86 23 ∧ σ7 86 23 ≤ 2147483647 := hI9.1 86 23
  show qr_W (qe L xs vb) (d + 45) qx_e228 _ (8, _, [.int (qz v2)], qw σ7 α8 κ ρ, 0, 0)
  refine qr_istore _ 10 rfl (by decide) rfl rfl ?_
  refine qr_aload_n 11 rfl rfl rfl ?_
  refine qr_get 14 rfl rfl rfl (by decide) rfl ?_
  refine qr_iconst 15 rfl rfl ?_
  refine qr_iload 17 rfl rfl rfl ?_
  refine qr_bipush 19 rfl (by decide) rfl ?_
  have hJ24 : ∀ (ls : qm_L) (u21 : Int), qm_get ls 0 = some (.ref 86) → qm_get ls 1 = some (.int (qz x1)) → qm_get ls 2 = some (.int (qz x2)) → qm_get ls 3 = some (.int (qz x3)) → qm_get ls 4 = some (.int (qz x4)) → qm_get ls 5 = some (.long (ql x5)) → qm_get ls 7 = some (.int (qz x6)) → qm_get ls 8 = some (.int (qz v2)) → (0 ≤ u21 ∧ u21 ≤ 1) → u21 = qnF1 (qnF (qd9 (α 94) (α 95) (σ 86 11)) (α 97) (α 98) (α 100) (α 99) (qsh (α 87) 32) (σ 86 22) (σ 86 16) x2 x3 x6) → qr_W (qe L xs vb) (d + 45) qx_e228 (fun r w' => ∃ σ' α', w' = qw σ' α' κ ρ ∧ qI σ' α' κ ρ ∧ qFr [(86, 15), (86, 23), (86, 30), (86, 35), (86, 36), (86, 37), (86, 38), (86, 39)] [96, 109] σ α σ' α' ∧ ∃ v : Int, r = some (.int (qz v)) ∧ ((-2147483648) ≤ v ∧ v ≤ 2147483647) ∧ v = g (qNVr σ α (σ 86 29) (σ 86 10) x2 x3 x4 x5 x6)) (27, ls, [.int (qz u21), .int (qz 0), .ref 109], qw σ7 α8 κ ρ, 0, 0) := by
    intro ls u21 g13 g14 g15 g16 g17 g18 g19 g20 hf22 hx23
    refine qr_iastore 28 rfl (by decide) rfl (by decide) (by decide) rfl ?_
    refine qy_wA (qw_r α8 109 (qzu (α8 109) (0 : Int).toNat u21)) rfl (fun α25 e26 => ?_)
    have hI27 : qI σ7 α25 κ ρ := by rw [e26]; exact qI_r hI9 109 _ rfl (show (-2147483648) ≤ u21 ∧ u21 ≤ 2147483647 by omega)
    have hF28 : qFr [(86, 15), (86, 23), (86, 30), (86, 35), (86, 36), (86, 37), (86, 38), (86, 39)] [96, 109] σ α σ7 α25 := by rw [e26]; exact qFr_r hF11 109 _ (by decide)
    refine qr_aload_n 29 rfl g13 rfl ?_
    refine qr_get 32 rfl rfl rfl (by decide) rfl ?_
    refine qr_iconst 33 rfl rfl ?_
    refine qr_iload 35 rfl g20 rfl ?_
    refine qr_bipush 37 rfl (by decide) rfl ?_
    have hJ39 : ∀ (ls : qm_L) (u36 : Int), qm_get ls 0 = some (.ref 86) → qm_get ls 1 = some (.int (qz x1)) → qm_get ls 2 = some (.int (qz x2)) → qm_get ls 3 = some (.int (qz x3)) → qm_get ls 4 = some (.int (qz x4)) → qm_get ls 5 = some (.long (ql x5)) → qm_get ls 7 = some (.int (qz x6)) → (0 ≤ u36 ∧ u36 ≤ 98) → u36 = qnF (qd9 (α 94) (α 95) (σ 86 11)) (α 97) (α 98) (α 100) (α 99) (qsh (α 87) 32) (σ 86 22) (σ 86 16) x2 x3 x6 / 64 → qr_W (qe L xs vb) (d + 45) qx_e228 (fun r w' => ∃ σ' α', w' = qw σ' α' κ ρ ∧ qI σ' α' κ ρ ∧ qFr [(86, 15), (86, 23), (86, 30), (86, 35), (86, 36), (86, 37), (86, 38), (86, 39)] [96, 109] σ α σ' α' ∧ ∃ v : Int, r = some (.int (qz v)) ∧ ((-2147483648) ≤ v ∧ v ≤ 2147483647) ∧ v = g (qNVr σ α (σ 86 29) (σ 86 10) x2 x3 x4 x5 x6)) (47, ls, [.int (qz u36), .int (qz 1), .ref 109], qw σ7 α25 κ ρ, 0, 0) := by
      intro ls u36 g29 g30 g31 g32 g33 g34 g35 hf37 hx38
      refine qr_iastore 48 rfl (by decide) rfl (by decide) (by decide) rfl ?_
      refine qy_wA (qw_r α25 109 (qzu (α25 109) (1 : Int).toNat u36)) rfl (fun α40 e41 => ?_)
      have hI42 : qI σ7 α40 κ ρ := by rw [e41]; exact qI_r hI27 109 _ rfl (show (-2147483648) ≤ u36 ∧ u36 ≤ 2147483647 by omega)
      have hF43 : qFr [(86, 15), (86, 23), (86, 30), (86, 35), (86, 36), (86, 37), (86, 38), (86, 39)] [96, 109] σ α σ7 α40 := by rw [e41]; exact qFr_r hF28 109 _ (by decide)
      refine qr_aload_n 49 rfl g29 rfl ?_
      refine qr_get 52 rfl rfl rfl (by decide) rfl ?_
      refine qr_iconst 53 rfl rfl ?_
      refine qr_aload_n 54 rfl g29 rfl ?_
      refine qr_iload_n 55 rfl g31 rfl ?_
      refine qr_iload_n 56 rfl g32 rfl ?_
      refine qr_iload 58 rfl g35 rfl ?_
      have hs44 : 0 ≤ σ7 86 6 ∧ σ7 86 6 ≤ 32 := hI42.1 86 6
      have hs45 : σ7 86 6 = (σ 86 6) := (hG10.1 86 6 (by decide)).trans rfl
      refine qr_callN 61 rfl rfl rfl (sf_209_86x (d := d + 41) hI42 r2 r3 r6 (by omega) (qZk_fr hF43 (by decide) (by decide) p3) (by omega)) ?_
      have hs48 : 0 ≤ σ7 86 24 ∧ σ7 86 24 ≤ 60 := hI42.1 86 24
      have hs49 : σ7 86 24 = (σ 86 24) := (hG10.1 86 24 (by decide)).trans rfl
      have hs50 : (-9223372036854775808) ≤ σ7 86 29 ∧ σ7 86 29 ≤ 9223372036854775807 := hI42.1 86 29
      have hs51 : σ7 86 29 = (σ 86 29) := (hG10.1 86 29 (by decide)).trans rfl
      rintro _ _ ⟨σ52, rfl, hI53, hG54, v46, rfl, hv46, hp47⟩
      have hF55 : qFr [(86, 15), (86, 23), (86, 30), (86, 35), (86, 36), (86, 37), (86, 38), (86, 39)] [96, 109] σ α σ52 α40 := qFr_t hF43 hG54 (by decide) (by decide)
      have hs56 : (-2147483648) ≤ σ52 86 30 ∧ σ52 86 30 ≤ 2147483647 := hI53.1 86 30
      rw [hF43.2 87 (by decide), hF43.2 91 (by decide), hF43.2 102 (by decide), hF43.2 103 (by decide), hF43.2 104 (by decide), hF43.2 105 (by decide), hF43.1 86 24 (by decide), hF43.1 86 29 (by decide)] at hp47
      show qr_W (qe L xs vb) (d + 45) qx_e228 _ (61, _, [.int (qz v46), .int (qz 2), .ref 109], qw σ52 α40 κ ρ, 0, 0)
      refine qr_iastore 62 rfl (by decide) rfl (by decide) (by decide) rfl ?_
      refine qy_wA (qw_r α40 109 (qzu (α40 109) (2 : Int).toNat v46)) rfl (fun α57 e58 => ?_)
      have hI59 : qI σ52 α57 κ ρ := by rw [e58]; exact qI_r hI53 109 _ rfl (show (-2147483648) ≤ v46 ∧ v46 ≤ 2147483647 by omega)
      have hF60 : qFr [(86, 15), (86, 23), (86, 30), (86, 35), (86, 36), (86, 37), (86, 38), (86, 39)] [96, 109] σ α σ52 α57 := by rw [e58]; exact qFr_r hF55 109 _ (by decide)
      refine qr_aload_n 63 rfl g29 rfl ?_
      refine qr_get 66 rfl rfl rfl (by decide) rfl ?_
      refine qr_iconst 67 rfl rfl ?_
      refine qr_aload_n 68 rfl g29 rfl ?_
      refine qr_get 71 rfl rfl rfl (by decide) rfl ?_
      refine qr_iconst 72 rfl rfl ?_
      refine qr_iload_n 73 rfl g31 rfl ?_
      refine qr_iadd 74 rfl rfl ?_
      refine qr_iaload 75 rfl rfl (by omega) (by decide) rfl ?_
      refine qr_topI (fun v61 hv61 => ?_)
      have hs62 : (-2147483648) ≤ v61 ∧ v61 ≤ 2147483647 := by rw [hv61]; exact hI59.2.1 87 _ (show _ < 252 by omega)
      have hrv61 : v61 = (α 87) ((0 + x2) : Int).toNat := hv61.trans (congrFun ((congrFun e58 87).trans ((qw_r_ne (by decide)).trans ((congrFun e41 87).trans ((qw_r_ne (by decide)).trans ((congrFun e26 87).trans ((qw_r_ne (by decide)).trans ((hG10.2 87 (by decide)).trans rfl))))))) _)
      refine qr_iastore 76 rfl (by decide) rfl (by decide) (by decide) rfl ?_
      refine qy_wA (qw_r α57 109 (qzu (α57 109) (3 : Int).toNat v61)) rfl (fun α63 e64 => ?_)
      have hI65 : qI σ52 α63 κ ρ := by rw [e64]; exact qI_r hI59 109 _ rfl (show (-2147483648) ≤ v61 ∧ v61 ≤ 2147483647 by omega)
      have hF66 : qFr [(86, 15), (86, 23), (86, 30), (86, 35), (86, 36), (86, 37), (86, 38), (86, 39)] [96, 109] σ α σ52 α63 := by rw [e64]; exact qFr_r hF60 109 _ (by decide)
      refine qr_aload_n 77 rfl g29 rfl ?_
      refine qr_get 80 rfl rfl rfl (by decide) rfl ?_
      refine qr_iconst 81 rfl rfl ?_
      refine qr_aload_n 82 rfl g29 rfl ?_
      refine qr_get 85 rfl rfl rfl (by decide) rfl ?_
      refine qr_iconst 86 rfl rfl ?_
      refine qr_iload_n 87 rfl g32 rfl ?_
      refine qr_iadd 88 rfl rfl ?_
      refine qr_iaload 89 rfl rfl (by omega) (by decide) rfl ?_
      refine qr_topI (fun v67 hv67 => ?_)
      have hs68 : (-2147483648) ≤ v67 ∧ v67 ≤ 2147483647 := by rw [hv67]; exact hI65.2.1 87 _ (show _ < 252 by omega)
      have hrv67 : v67 = (α 87) ((0 + x3) : Int).toNat := hv67.trans (congrFun ((congrFun e64 87).trans ((qw_r_ne (by decide)).trans ((congrFun e58 87).trans ((qw_r_ne (by decide)).trans ((congrFun e41 87).trans ((qw_r_ne (by decide)).trans ((congrFun e26 87).trans ((qw_r_ne (by decide)).trans ((hG10.2 87 (by decide)).trans rfl))))))))) _)
      refine qr_iastore 90 rfl (by decide) rfl (by decide) (by decide) rfl ?_
      refine qy_wA (qw_r α63 109 (qzu (α63 109) (4 : Int).toNat v67)) rfl (fun α69 e70 => ?_)
      have hI71 : qI σ52 α69 κ ρ := by rw [e70]; exact qI_r hI65 109 _ rfl (show (-2147483648) ≤ v67 ∧ v67 ≤ 2147483647 by omega)
      have hF72 : qFr [(86, 15), (86, 23), (86, 30), (86, 35), (86, 36), (86, 37), (86, 38), (86, 39)] [96, 109] σ α σ52 α69 := by rw [e70]; exact qFr_r hF66 109 _ (by decide)
      refine qr_aload_n 91 rfl g29 rfl ?_
      refine qr_get 94 rfl rfl rfl (by decide) rfl ?_
      refine qr_iconst 95 rfl rfl ?_
      refine qr_aload_n 96 rfl g29 rfl ?_
      refine qr_iload_n 97 rfl g32 rfl ?_
      refine qr_iload_n 98 rfl g31 rfl ?_
      have hs73 : 0 ≤ σ52 86 6 ∧ σ52 86 6 ≤ 32 := hI71.1 86 6
      have hs74 : σ52 86 6 = (σ 86 6) := (hG54.1 86 6 (by decide)).trans ((hG10.1 86 6 (by decide)).trans rfl)
      refine qr_callN 101 rfl rfl rfl (sf_207_86x (d := d + 44) hI71 (qrg r3 (by decide) (by decide)) r2 (by omega)) ?_
      rintro _ _ ⟨rfl, v75, rfl, hv75, hp76⟩
      rw [hF72.2 91 (by decide)] at hp76
      show qr_W (qe L xs vb) (d + 45) qx_e228 _ (101, _, [.int (qz v75), .int (qz 5), .ref 109], qw σ52 α69 κ ρ, 0, 0)
      have hJ86 : ∀ (ls : qm_L) (u83 : Int), qm_get ls 0 = some (.ref 86) → qm_get ls 1 = some (.int (qz x1)) → qm_get ls 2 = some (.int (qz x2)) → qm_get ls 3 = some (.int (qz x3)) → qm_get ls 4 = some (.int (qz x4)) → qm_get ls 5 = some (.long (ql x5)) → (0 ≤ u83 ∧ u83 ≤ 1) → u83 = qll (α 91) (α 91 (x2 : Int).toNat) x3 → qr_W (qe L xs vb) (d + 45) qx_e228 (fun r w' => ∃ σ' α', w' = qw σ' α' κ ρ ∧ qI σ' α' κ ρ ∧ qFr [(86, 15), (86, 23), (86, 30), (86, 35), (86, 36), (86, 37), (86, 38), (86, 39)] [96, 109] σ α σ' α' ∧ ∃ v : Int, r = some (.int (qz v)) ∧ ((-2147483648) ≤ v ∧ v ≤ 2147483647) ∧ v = g (qNVr σ α (σ 86 29) (σ 86 10) x2 x3 x4 x5 x6)) (109, ls, [.int (qz u83), .int (qz 5), .ref 109], qw σ52 α69 κ ρ, 0, 0) := by
        intro ls u83 g77 g78 g79 g80 g81 g82 hf84 hx85
        refine qr_iastore 110 rfl (by decide) rfl (by decide) (by decide) rfl ?_
        refine qy_wA (qw_r α69 109 (qzu (α69 109) (5 : Int).toNat u83)) rfl (fun α87 e88 => ?_)
        have hI89 : qI σ52 α87 κ ρ := by rw [e88]; exact qI_r hI71 109 _ rfl (show (-2147483648) ≤ u83 ∧ u83 ≤ 2147483647 by omega)
        have hF90 : qFr [(86, 15), (86, 23), (86, 30), (86, 35), (86, 36), (86, 37), (86, 38), (86, 39)] [96, 109] σ α σ52 α87 := by rw [e88]; exact qFr_r hF72 109 _ (by decide)
        refine qr_aload_n 111 rfl g77 rfl ?_
        refine qr_get 114 rfl rfl rfl (by decide) rfl ?_
        refine qr_bipush 116 rfl (by decide) rfl ?_
        refine qr_aload_n 117 rfl g77 rfl ?_
        refine qr_iload_n 118 rfl g79 rfl ?_
        refine qr_iload_n 119 rfl g80 rfl ?_
        have hs91 : 0 ≤ σ52 86 6 ∧ σ52 86 6 ≤ 32 := hI89.1 86 6
        have hs92 : σ52 86 6 = (σ 86 6) := (hG54.1 86 6 (by decide)).trans ((hG10.1 86 6 (by decide)).trans rfl)
        refine qr_callN 122 rfl rfl rfl (sf_187_86x (d := d + 42) hI89 r2 r3 (by omega)) ?_
        rintro _ _ ⟨σ95, α96, rfl, hI97, hG98, v93, rfl, hv93, hx94⟩
        have hF99 : qFr [(86, 15), (86, 23), (86, 30), (86, 35), (86, 36), (86, 37), (86, 38), (86, 39)] [96, 109] σ α σ95 α96 := qFr_t hF90 hG98 (by decide) (by decide)
        rw [hF90.2 94 (by decide), hF90.2 95 (by decide), hF90.1 86 11 (by decide)] at hx94
        show qr_W (qe L xs vb) (d + 45) qx_e228 _ (122, _, [.int (qz v93), .int (qz 6), .ref 109], qw σ95 α96 κ ρ, 0, 0)
        refine qr_bipush 124 rfl (by decide) rfl ?_
        have hJ135 : ∀ (ls : qm_L) (u114 : Int) (σ115 α116 : Nat → Nat → Int), qm_get ls 0 = some (.ref 86) → qm_get ls 1 = some (.int (qz x1)) → qm_get ls 2 = some (.int (qz x2)) → qm_get ls 4 = some (.int (qz x4)) → qm_get ls 5 = some (.long (ql x5)) → (0 ≤ u114 ∧ u114 ≤ 99) → qI σ115 α116 κ ρ → qFr [(86, 15), (86, 23), (86, 30), (86, 35), (86, 36), (86, 37), (86, 38), (86, 39)] [96, 109] σ α σ115 α116 → σ115 86 6 = (σ 86 6) → σ115 86 10 = (σ 86 10) → σ115 86 11 = (σ 86 11) → σ115 86 16 = (σ 86 16) → σ115 86 22 = (σ 86 22) → σ115 86 23 = (σ7 86 23) → σ115 86 24 = (σ 86 24) → σ115 86 29 = (σ 86 29) → σ115 86 30 = (σ52 86 30) → σ115 86 41 = (σ 86 41) → α116 87 = (α 87) → α116 91 = (α 91) → α116 108 = (α 108) → α116 109 = (qzu (qzu (qzu (qzu (qzu (qzu (α 109) (0 : Int).toNat u21) (1 : Int).toNat u36) (2 : Int).toNat v46) (3 : Int).toNat v61) (4 : Int).toNat v67) (5 : Int).toNat u83) → u114 = qm9 (qd9 (α 94) (α 95) (σ 86 11) x2 x3) → qr_W (qe L xs vb) (d + 45) qx_e228 (fun r w' => ∃ σ' α', w' = qw σ' α' κ ρ ∧ qI σ' α' κ ρ ∧ qFr [(86, 15), (86, 23), (86, 30), (86, 35), (86, 36), (86, 37), (86, 38), (86, 39)] [96, 109] σ α σ' α' ∧ ∃ v : Int, r = some (.int (qz v)) ∧ ((-2147483648) ≤ v ∧ v ≤ 2147483647) ∧ v = g (qNVr σ α (σ 86 29) (σ 86 10) x2 x3 x4 x5 x6)) (138, ls, [.int (qz u114), .int (qz 6), .ref 109], qw σ115 α116 κ ρ, 0, 0) := by
          intro ls u114 σ115 α116 g109 g110 g111 g112 g113 hf133 hI117 hF118 hk119 hk120 hk121 hk122 hk123 hk124 hk125 hk126 hk127 hk128 hk129 hk130 hk131 hk132 hx134
          refine qr_iastore 139 rfl (by decide) rfl (by decide) (by decide) rfl ?_
          refine qy_wA (qw_r α116 109 (qzu (α116 109) (6 : Int).toNat u114)) rfl (fun α136 e137 => ?_)
          have hI138 : qI σ115 α136 κ ρ := by rw [e137]; exact qI_r hI117 109 _ rfl (show (-2147483648) ≤ u114 ∧ u114 ≤ 2147483647 by omega)
          have hF139 : qFr [(86, 15), (86, 23), (86, 30), (86, 35), (86, 36), (86, 37), (86, 38), (86, 39)] [96, 109] σ α σ115 α136 := by rw [e137]; exact qFr_r hF118 109 _ (by decide)
          refine qr_aload_n 140 rfl g109 rfl ?_
          refine qr_get 143 rfl rfl rfl (by decide) rfl ?_
          refine qr_bipush 145 rfl (by decide) rfl ?_
          refine qr_iconst 146 rfl rfl ?_
          refine qr_iastore 147 rfl (by decide) rfl (by decide) (by decide) rfl ?_
          refine qy_wA (qw_r α136 109 (qzu (α136 109) (7 : Int).toNat 0)) rfl (fun α140 e141 => ?_)
          have hI142 : qI σ115 α140 κ ρ := by rw [e141]; exact qI_r hI138 109 _ rfl (show (-2147483648) ≤ 0 ∧ 0 ≤ 2147483647 by omega)
          have hF143 : qFr [(86, 15), (86, 23), (86, 30), (86, 35), (86, 36), (86, 37), (86, 38), (86, 39)] [96, 109] σ α σ115 α140 := by rw [e141]; exact qFr_r hF139 109 _ (by decide)
          refine qr_iconst 148 rfl rfl ?_
          refine qr_istore _ 150 rfl (by decide) rfl rfl ?_
          have hL3626 : ∀ (n : Nat) (ls : qm_L) (u3615 : Int) (α3617 : Nat → Nat → Int), 32 - u3615 < (n : Int) → qm_get ls 0 = some (.ref 86) → qm_get ls 1 = some (.int (qz x1)) → qm_get ls 2 = some (.int (qz x2)) → qm_get ls 4 = some (.int (qz x4)) → qm_get ls 5 = some (.long (ql x5)) → qm_get ls 9 = some (.int (qz u3615)) → (0 ≤ u3615 ∧ u3615 ≤ 32) → qI σ115 α3617 κ ρ → qFr [(86, 15), (86, 23), (86, 30), (86, 35), (86, 36), (86, 37), (86, 38), (86, 39)] [96, 109] σ α σ115 α3617 → α3617 87 = (α 87) → α3617 91 = (α 91) → α3617 108 = (α 108) → α3617 109 = (qzu (α140 109) (7 : Int).toNat (qsm (qshD (α 91) x2 x5 (σ 86 10) (σ 86 41)) (u3615 : Int).toNat)) → u3615 ≤ σ 86 6 → qr_W (qe L xs vb) (d + 45) qx_e228 (fun r w' => ∃ σ' α', w' = qw σ' α' κ ρ ∧ qI σ' α' κ ρ ∧ qFr [(86, 15), (86, 23), (86, 30), (86, 35), (86, 36), (86, 37), (86, 38), (86, 39)] [96, 109] σ α σ' α' ∧ ∃ v : Int, r = some (.int (qz v)) ∧ ((-2147483648) ≤ v ∧ v ≤ 2147483647) ∧ v = g (qNVr σ α (σ 86 29) (σ 86 10) x2 x3 x4 x5 x6)) (150, ls, [], qw σ115 α3617 κ ρ, 0, 0) := by
            intro n
            induction n with
            | zero => intro ls u3615 α3617 hm g3609 g3610 g3611 g3612 g3613 g3614 hf3623 hI3618 hF3619 hk3620 hk3621 hk3622 hx3624 hx3625; exact False.elim (by omega)
            | succ n ih3627 =>
              intro ls u3615 α3617 hm g3609 g3610 g3611 g3612 g3613 g3614 hf3623 hI3618 hF3619 hk3620 hk3621 hk3622 hx3624 hx3625
              refine qr_iload 152 rfl g3614 rfl ?_
              refine qr_aload_n 153 rfl g3609 rfl ?_
              refine qr_get 156 rfl rfl rfl (by decide) rfl ?_
              refine qy_v (σ 86 6) ((hk119).trans rfl) ?_
              refine qr_icmp_ge 251 159 rfl rfl rfl (qrg hf3623 (by decide) (by decide)) (qrg hz86_6 (by decide) (by decide)) (fun h3695 => ?_) (fun h3695 => ?_)
              · skip
                refine qr_aload_n 252 rfl g3609 rfl ?_
                refine qr_get 255 rfl rfl rfl (by decide) rfl ?_
                refine qr_bipush 257 rfl (by decide) rfl ?_
                refine qr_iload 259 rfl g3612 rfl ?_
                have hJ3737 : ∀ (ls : qm_L) (u3716 : Int) (σ3717 α3718 : Nat → Nat → Int), qm_get ls 0 = some (.ref 86) → qm_get ls 1 = some (.int (qz x1)) → (0 ≤ u3716 ∧ u3716 ≤ 99) → qI σ3717 α3718 κ ρ → qFr [(86, 15), (86, 23), (86, 30), (86, 35), (86, 36), (86, 37), (86, 38), (86, 39)] [96, 109] σ α σ3717 α3718 → σ3717 86 6 = (σ 86 6) → σ3717 86 10 = (σ 86 10) → σ3717 86 11 = (σ 86 11) → σ3717 86 16 = (σ 86 16) → σ3717 86 22 = (σ 86 22) → σ3717 86 23 = (σ7 86 23) → σ3717 86 24 = (σ 86 24) → σ3717 86 29 = (σ 86 29) → σ3717 86 30 = (σ52 86 30) → σ3717 86 41 = (σ 86 41) → α3718 87 = (α 87) → α3718 91 = (α 91) → α3718 108 = (α 108) → α3718 109 = (qzu (α140 109) (7 : Int).toNat (qsm (qshD (α 91) x2 x5 (σ 86 10) (σ 86 41)) (u3615 : Int).toNat)) → u3716 = (if x4 = -1 then 0 else qm9 (qd9 (α 94) (α 95) (σ 86 11) x2 x4)) → qr_W (qe L xs vb) (d + 45) qx_e228 (fun r w' => ∃ σ' α', w' = qw σ' α' κ ρ ∧ qI σ' α' κ ρ ∧ qFr [(86, 15), (86, 23), (86, 30), (86, 35), (86, 36), (86, 37), (86, 38), (86, 39)] [96, 109] σ α σ' α' ∧ ∃ v : Int, r = some (.int (qz v)) ∧ ((-2147483648) ≤ v ∧ v ≤ 2147483647) ∧ v = g (qNVr σ α (σ 86 29) (σ 86 10) x2 x3 x4 x5 x6)) (290, ls, [.int (qz u3716), .int (qz 8), .ref 109], qw σ3717 α3718 κ ρ, 0, 0) := by
                  intro ls u3716 σ3717 α3718 g3714 g3715 hf3735 hI3719 hF3720 hk3721 hk3722 hk3723 hk3724 hk3725 hk3726 hk3727 hk3728 hk3729 hk3730 hk3731 hk3732 hk3733 hk3734 hx3736
                  refine qr_iastore 291 rfl (by decide) rfl (by decide) (by decide) rfl ?_
                  refine qy_wA (qw_r α3718 109 (qzu (α3718 109) (8 : Int).toNat u3716)) rfl (fun α3738 e3739 => ?_)
                  have hI3740 : qI σ3717 α3738 κ ρ := by rw [e3739]; exact qI_r hI3719 109 _ rfl (show (-2147483648) ≤ u3716 ∧ u3716 ≤ 2147483647 by omega)
                  have hF3741 : qFr [(86, 15), (86, 23), (86, 30), (86, 35), (86, 36), (86, 37), (86, 38), (86, 39)] [96, 109] σ α σ3717 α3738 := by rw [e3739]; exact qFr_r hF3720 109 _ (by decide)
                  refine qr_aload_n 292 rfl g3714 rfl ?_
                  refine qr_get 295 rfl rfl rfl (by decide) rfl ?_
                  refine qr_iload_n 296 rfl g3715 rfl ?_
                  refine qr_iaload 297 rfl rfl (qrgi r1 (by decide) (by decide)) (by decide) rfl ?_
                  refine qr_topI (fun v3742 hv3742 => ?_)
                  have hs3743 : (-1) ≤ v3742 ∧ v3742 ≤ 120 := by rw [hv3742]; exact hI3740.2.1 108 _ (show _ < 2 from qrgt r1 (by decide) (by decide))
                  have hrv3742 : v3742 = (α 108) (x1 : Int).toNat := hv3742.trans (congrFun ((congrFun e3739 108).trans ((qw_r_ne (by decide)).trans hk3733)) _)
                  refine qr_if_lt 315 300 rfl rfl rfl (qrg hs3743 (by decide) (by decide)) (fun h3744 => ?_) (fun h3744 => ?_)
                  · skip
                    refine qr_iload_n 316 rfl g3715 rfl ?_
                    have hJ3756 : ∀ (ls : qm_L) (u3753 : Int), (0 ≤ u3753 ∧ u3753 ≤ 1) → u3753 = qdf x1 (α3738 109) → qr_W (qe L xs vb) (d + 45) qx_e228 (fun r w' => ∃ σ' α', w' = qw σ' α' κ ρ ∧ qI σ' α' κ ρ ∧ qFr [(86, 15), (86, 23), (86, 30), (86, 35), (86, 36), (86, 37), (86, 38), (86, 39)] [96, 109] σ α σ' α' ∧ ∃ v : Int, r = some (.int (qz v)) ∧ ((-2147483648) ≤ v ∧ v ≤ 2147483647) ∧ v = g (qNVr σ α (σ 86 29) (σ 86 10) x2 x3 x4 x5 x6)) (372, ls, [.int (qz u3753)], qw σ3717 α3738 κ ρ, 0, 0) := by
                      intro ls u3753 hf3754 hx3755
                      refine qr_istore _ 374 rfl (by decide) rfl rfl ?_
                      refine qr_iload 376 rfl (qm_ge _ _ _) rfl ?_
                      refine qr_if_eq 383 379 rfl rfl rfl (qrg hf3754 (by decide) (by decide)) (fun h3757 => ?_) (fun h3757 => ?_)
                      · skip
                        refine qr_iconst 384 rfl rfl ?_
                        refine qr_retI rfl rfl (by decide) (by decide) ?_
                        exact ⟨_, _, rfl, hI3740, hF3741, 0, rfl, (by decide), (by have hp := (p1.1 (α3738 109)).2 (by omega); have hd := hx3755; have hv : 0 = g (α3738 109) := (by rw [← hp]; omega); exact hv.trans (qgo_v p1.2 ((congrFun ((congrFun e3739 109).trans (qw_r_eq.trans (congrArg (fun f => qzu f (8 : Int).toNat u3716) hk3734))) _).trans ((congrFun ((congrFun e141 109).trans (qw_r_eq.trans (congrArg (fun f => qzu f (7 : Int).toNat 0) ((congrFun e137 109).trans (qw_r_eq.trans (congrArg (fun f => qzu f (6 : Int).toNat u114) hk132)))))) _).trans hx23)) ((congrFun ((congrFun e3739 109).trans (qw_r_eq.trans (congrArg (fun f => qzu f (8 : Int).toNat u3716) hk3734))) _).trans ((congrFun ((congrFun e141 109).trans (qw_r_eq.trans (congrArg (fun f => qzu f (7 : Int).toNat 0) ((congrFun e137 109).trans (qw_r_eq.trans (congrArg (fun f => qzu f (6 : Int).toNat u114) hk132)))))) _).trans hx38)) ((congrFun ((congrFun e3739 109).trans (qw_r_eq.trans (congrArg (fun f => qzu f (8 : Int).toNat u3716) hk3734))) _).trans ((congrFun ((congrFun e141 109).trans (qw_r_eq.trans (congrArg (fun f => qzu f (7 : Int).toNat 0) ((congrFun e137 109).trans (qw_r_eq.trans (congrArg (fun f => qzu f (6 : Int).toNat u114) hk132)))))) _).trans hp47.1)) ((congrFun ((congrFun e3739 109).trans (qw_r_eq.trans (congrArg (fun f => qzu f (8 : Int).toNat u3716) hk3734))) _).trans ((congrFun ((congrFun e141 109).trans (qw_r_eq.trans (congrArg (fun f => qzu f (7 : Int).toNat 0) ((congrFun e137 109).trans (qw_r_eq.trans (congrArg (fun f => qzu f (6 : Int).toNat u114) hk132)))))) _).trans (hrv61.trans (congrArg (α 87) (show (0 + x2 : Int).toNat = (x2 : Int).toNat by omega))))) ((congrFun ((congrFun e3739 109).trans (qw_r_eq.trans (congrArg (fun f => qzu f (8 : Int).toNat u3716) hk3734))) _).trans ((congrFun ((congrFun e141 109).trans (qw_r_eq.trans (congrArg (fun f => qzu f (7 : Int).toNat 0) ((congrFun e137 109).trans (qw_r_eq.trans (congrArg (fun f => qzu f (6 : Int).toNat u114) hk132)))))) _).trans (hrv67.trans (congrArg (α 87) (show (0 + x3 : Int).toNat = (x3 : Int).toNat by omega))))) ((congrFun ((congrFun e3739 109).trans (qw_r_eq.trans (congrArg (fun f => qzu f (8 : Int).toNat u3716) hk3734))) _).trans ((congrFun ((congrFun e141 109).trans (qw_r_eq.trans (congrArg (fun f => qzu f (7 : Int).toNat 0) ((congrFun e137 109).trans (qw_r_eq.trans (congrArg (fun f => qzu f (6 : Int).toNat u114) hk132)))))) _).trans hx85)) ((congrFun ((congrFun e3739 109).trans (qw_r_eq.trans (congrArg (fun f => qzu f (8 : Int).toNat u3716) hk3734))) _).trans ((congrFun ((congrFun e141 109).trans (qw_r_eq.trans (congrArg (fun f => qzu f (7 : Int).toNat 0) ((congrFun e137 109).trans (qw_r_eq.trans (congrArg (fun f => qzu f (6 : Int).toNat u114) hk132)))))) _).trans hx134)) ((congrFun ((congrFun e3739 109).trans (qw_r_eq.trans (congrArg (fun f => qzu f (8 : Int).toNat u3716) hk3734))) _).trans (show qsm (qshD (α 91) x2 x5 (σ 86 10) (σ 86 41)) (u3615 : Int).toNat = qsm (qshD (α 91) x2 x5 (σ 86 10) (σ 86 41)) (σ 86 6 : Int).toNat by rw [show (u3615 : Int).toNat = (σ 86 6 : Int).toNat by omega])) ((congrFun ((congrFun e3739 109).trans (qw_r_eq.trans (congrArg (fun f => qzu f (8 : Int).toNat u3716) hk3734))) _).trans hx3736)))⟩
                      · skip
                        refine qr_iconst 380 rfl rfl ?_
                        refine qr_goto 384 rfl rfl ?_
                        refine qr_retI rfl rfl (by decide) (by decide) ?_
                        exact ⟨_, _, rfl, hI3740, hF3741, 1, rfl, (by decide), (by have hp := (p1.1 (α3738 109)).2 (by omega); have hd := hx3755; have hv : 1 = g (α3738 109) := (by rw [← hp]; omega); exact hv.trans (qgo_v p1.2 ((congrFun ((congrFun e3739 109).trans (qw_r_eq.trans (congrArg (fun f => qzu f (8 : Int).toNat u3716) hk3734))) _).trans ((congrFun ((congrFun e141 109).trans (qw_r_eq.trans (congrArg (fun f => qzu f (7 : Int).toNat 0) ((congrFun e137 109).trans (qw_r_eq.trans (congrArg (fun f => qzu f (6 : Int).toNat u114) hk132)))))) _).trans hx23)) ((congrFun ((congrFun e3739 109).trans (qw_r_eq.trans (congrArg (fun f => qzu f (8 : Int).toNat u3716) hk3734))) _).trans ((congrFun ((congrFun e141 109).trans (qw_r_eq.trans (congrArg (fun f => qzu f (7 : Int).toNat 0) ((congrFun e137 109).trans (qw_r_eq.trans (congrArg (fun f => qzu f (6 : Int).toNat u114) hk132)))))) _).trans hx38)) ((congrFun ((congrFun e3739 109).trans (qw_r_eq.trans (congrArg (fun f => qzu f (8 : Int).toNat u3716) hk3734))) _).trans ((congrFun ((congrFun e141 109).trans (qw_r_eq.trans (congrArg (fun f => qzu f (7 : Int).toNat 0) ((congrFun e137 109).trans (qw_r_eq.trans (congrArg (fun f => qzu f (6 : Int).toNat u114) hk132)))))) _).trans hp47.1)) ((congrFun ((congrFun e3739 109).trans (qw_r_eq.trans (congrArg (fun f => qzu f (8 : Int).toNat u3716) hk3734))) _).trans ((congrFun ((congrFun e141 109).trans (qw_r_eq.trans (congrArg (fun f => qzu f (7 : Int).toNat 0) ((congrFun e137 109).trans (qw_r_eq.trans (congrArg (fun f => qzu f (6 : Int).toNat u114) hk132)))))) _).trans (hrv61.trans (congrArg (α 87) (show (0 + x2 : Int).toNat = (x2 : Int).toNat by omega))))) ((congrFun ((congrFun e3739 109).trans (qw_r_eq.trans (congrArg (fun f => qzu f (8 : Int).toNat u3716) hk3734))) _).trans ((congrFun ((congrFun e141 109).trans (qw_r_eq.trans (congrArg (fun f => qzu f (7 : Int).toNat 0) ((congrFun e137 109).trans (qw_r_eq.trans (congrArg (fun f => qzu f (6 : Int).toNat u114) hk132)))))) _).trans (hrv67.trans (congrArg (α 87) (show (0 + x3 : Int).toNat = (x3 : Int).toNat by omega))))) ((congrFun ((congrFun e3739 109).trans (qw_r_eq.trans (congrArg (fun f => qzu f (8 : Int).toNat u3716) hk3734))) _).trans ((congrFun ((congrFun e141 109).trans (qw_r_eq.trans (congrArg (fun f => qzu f (7 : Int).toNat 0) ((congrFun e137 109).trans (qw_r_eq.trans (congrArg (fun f => qzu f (6 : Int).toNat u114) hk132)))))) _).trans hx85)) ((congrFun ((congrFun e3739 109).trans (qw_r_eq.trans (congrArg (fun f => qzu f (8 : Int).toNat u3716) hk3734))) _).trans ((congrFun ((congrFun e141 109).trans (qw_r_eq.trans (congrArg (fun f => qzu f (7 : Int).toNat 0) ((congrFun e137 109).trans (qw_r_eq.trans (congrArg (fun f => qzu f (6 : Int).toNat u114) hk132)))))) _).trans hx134)) ((congrFun ((congrFun e3739 109).trans (qw_r_eq.trans (congrArg (fun f => qzu f (8 : Int).toNat u3716) hk3734))) _).trans (show qsm (qshD (α 91) x2 x5 (σ 86 10) (σ 86 41)) (u3615 : Int).toNat = qsm (qshD (α 91) x2 x5 (σ 86 10) (σ 86 41)) (σ 86 6 : Int).toNat by rw [show (u3615 : Int).toNat = (σ 86 6 : Int).toNat by omega])) ((congrFun ((congrFun e3739 109).trans (qw_r_eq.trans (congrArg (fun f => qzu f (8 : Int).toNat u3716) hk3734))) _).trans hx3736)))⟩
                    refine qr_if_ne 346 319 rfl rfl rfl (qrg r1 (by decide) (by decide)) (fun h3758 => ?_) (fun h3758 => ?_)
                    · skip
                      refine qr_aload_n 347 rfl g3714 rfl ?_
                      refine qr_get 350 rfl rfl rfl (by decide) rfl ?_
                      refine qr_bipush 352 rfl (by decide) rfl ?_
                      refine qr_iaload 353 rfl rfl (by decide) (by decide) rfl ?_
                      refine qr_topI (fun v3759 hv3759 => ?_)
                      have hs3760 : (-2147483648) ≤ v3759 ∧ v3759 ≤ 2147483647 := by rw [hv3759]; exact hI3740.2.1 109 _ (show _ < 9 by decide)
                      have hrv3759 : v3759 = (α3738 109) (8 : Int).toNat := hv3759
                      refine qr_iconst 354 rfl rfl ?_
                      refine qr_icmp_ge 371 357 rfl rfl rfl hs3760 (by decide) (fun h3761 => ?_) (fun h3761 => ?_)
                      · skip
                        refine qr_iconst 372 rfl rfl ?_
                        exact hJ3756 _ 0 (by decide) (by have e0 : α3738 109 8 = v3759 := hrv3759.symm; unfold qdf; (repeat' split) <;> omega)
                      · skip
                        refine qr_aload_n 358 rfl g3714 rfl ?_
                        refine qr_get 361 rfl rfl rfl (by decide) rfl ?_
                        refine qr_iconst 362 rfl rfl ?_
                        refine qr_iaload 363 rfl rfl (by decide) (by decide) rfl ?_
                        refine qr_topI (fun v3762 hv3762 => ?_)
                        have hs3763 : (-2147483648) ≤ v3762 ∧ v3762 ≤ 2147483647 := by rw [hv3762]; exact hI3740.2.1 109 _ (show _ < 9 by decide)
                        have hrv3762 : v3762 = (α3738 109) (3 : Int).toNat := hv3762
                        refine qr_iconst 364 rfl rfl ?_
                        refine qr_icmp_ne 371 367 rfl rfl rfl hs3763 (by decide) (fun h3764 => ?_) (fun h3764 => ?_)
                        · skip
                          refine qr_iconst 372 rfl rfl ?_
                          exact hJ3756 _ 0 (by decide) (by have e0 : α3738 109 8 = v3759 := hrv3759.symm; have e1 : α3738 109 3 = v3762 := hrv3762.symm; unfold qdf; (repeat' split) <;> omega)
                        · skip
                          refine qr_iconst 368 rfl rfl ?_
                          refine qr_goto 372 rfl rfl ?_
                          exact hJ3756 _ 1 (by decide) (by have e0 : α3738 109 8 = v3759 := hrv3759.symm; have e1 : α3738 109 3 = v3762 := hrv3762.symm; unfold qdf; (repeat' split) <;> omega)
                    · skip
                      refine qr_aload_n 320 rfl g3714 rfl ?_
                      refine qr_get 323 rfl rfl rfl (by decide) rfl ?_
                      refine qr_iconst 324 rfl rfl ?_
                      refine qr_iaload 325 rfl rfl (by decide) (by decide) rfl ?_
                      refine qr_topI (fun v3765 hv3765 => ?_)
                      have hs3766 : (-2147483648) ≤ v3765 ∧ v3765 ≤ 2147483647 := by rw [hv3765]; exact hI3740.2.1 109 _ (show _ < 9 by decide)
                      have hrv3765 : v3765 = (α3738 109) (0 : Int).toNat := hv3765
                      refine qr_iconst 326 rfl rfl ?_
                      refine qr_icmp_ne 342 329 rfl rfl rfl hs3766 (by decide) (fun h3767 => ?_) (fun h3767 => ?_)
                      · skip
                        refine qr_iconst 343 rfl rfl ?_
                        refine qr_goto 372 rfl rfl ?_
                        exact hJ3756 _ 0 (by decide) (by have e0 : α3738 109 0 = v3765 := hrv3765.symm; unfold qdf; (repeat' split) <;> omega)
                      · skip
                        refine qr_aload_n 330 rfl g3714 rfl ?_
                        refine qr_get 333 rfl rfl rfl (by decide) rfl ?_
                        refine qr_iconst 334 rfl rfl ?_
                        refine qr_iaload 335 rfl rfl (by decide) (by decide) rfl ?_
                        refine qr_topI (fun v3768 hv3768 => ?_)
                        have hs3769 : (-2147483648) ≤ v3768 ∧ v3768 ≤ 2147483647 := by rw [hv3768]; exact hI3740.2.1 109 _ (show _ < 9 by decide)
                        have hrv3768 : v3768 = (α3738 109) (2 : Int).toNat := hv3768
                        refine qr_if_ne 342 338 rfl rfl rfl hs3769 (fun h3770 => ?_) (fun h3770 => ?_)
                        · skip
                          refine qr_iconst 343 rfl rfl ?_
                          refine qr_goto 372 rfl rfl ?_
                          exact hJ3756 _ 0 (by decide) (by have e0 : α3738 109 0 = v3765 := hrv3765.symm; have e1 : α3738 109 2 = v3768 := hrv3768.symm; unfold qdf; (repeat' split) <;> omega)
                        · skip
                          refine qr_iconst 339 rfl rfl ?_
                          refine qr_goto 372 rfl rfl ?_
                          exact hJ3756 _ 1 (by decide) (by have e0 : α3738 109 0 = v3765 := hrv3765.symm; have e1 : α3738 109 2 = v3768 := hrv3768.symm; unfold qdf; (repeat' split) <;> omega)
                  · skip
                    refine qr_aload_n 301 rfl g3714 rfl ?_
                    refine qr_bipush 303 rfl (by decide) rfl ?_
                    refine qr_iload_n 304 rfl g3715 rfl ?_
                    refine qr_imul 305 rfl rfl ?_
                    refine qr_aload_n 306 rfl g3714 rfl ?_
                    refine qr_get 309 rfl rfl rfl (by decide) rfl ?_
                    refine qr_iload_n 310 rfl g3715 rfl ?_
                    refine qr_iaload 311 rfl rfl (qrgi r1 (by decide) (by decide)) (by decide) rfl ?_
                    refine qr_topI (fun v3771 hv3771 => ?_)
                    have hs3772 : (-1) ≤ v3771 ∧ v3771 ≤ 120 := by rw [hv3771]; exact hI3740.2.1 108 _ (show _ < 2 from qrgt r1 (by decide) (by decide))
                    have hrv3771 : v3771 = (α 108) (x1 : Int).toNat := hv3771.trans (congrFun ((congrFun e3739 108).trans ((qw_r_ne (by decide)).trans hk3733)) _)
                    refine qr_callN 314 rfl rfl rfl (sf_213_86x (d := d + 0) hI3740 (by omega) (by omega)) ?_
                    rintro _ _ ⟨σ3776, rfl, hI3777, hG3778, v3773, rfl, hv3773, hp3774, hx3775⟩
                    have hF3779 : qFr [(86, 15), (86, 23), (86, 30), (86, 35), (86, 36), (86, 37), (86, 38), (86, 39)] [96, 109] σ α σ3776 α3738 := qFr_t hF3741 hG3778 (by decide) (by decide)
                    have hs3780 : (-1) ≤ σ3776 86 38 ∧ σ3776 86 38 ≤ 120 := hI3777.1 86 38
                    rw [hF3741.2 106 (by decide), hF3741.2 107 (by decide)] at hx3775
                    show qr_W (qe L xs vb) (d + 45) qx_e228 _ (314, _, [.int (qz v3773)], qw σ3776 α3738 κ ρ, 0, 0)
                    refine qr_retI rfl rfl (by decide) (by decide) ?_
                    exact ⟨_, _, rfl, hI3777, hF3779, v3773, rfl, hv3773, (by have hw := hx3775; rw [hrv3771, show qtT (α 106) (α 107) (120 * x1) = (fun j => α 107 ((120 * x1).toNat + j)) from if_neg (by omega)] at hw; have hp := (p1.1 (α3738 109)).1 (by omega); unfold qReW at hw; have hv : v3773 = g (α3738 109) := (by rw [← hp.2]; rcases hw with hw | hw; (exact hw.2.1); (exact absurd hw.1 (by omega))); exact hv.trans (qgo_v p1.2 ((congrFun ((congrFun e3739 109).trans (qw_r_eq.trans (congrArg (fun f => qzu f (8 : Int).toNat u3716) hk3734))) _).trans ((congrFun ((congrFun e141 109).trans (qw_r_eq.trans (congrArg (fun f => qzu f (7 : Int).toNat 0) ((congrFun e137 109).trans (qw_r_eq.trans (congrArg (fun f => qzu f (6 : Int).toNat u114) hk132)))))) _).trans hx23)) ((congrFun ((congrFun e3739 109).trans (qw_r_eq.trans (congrArg (fun f => qzu f (8 : Int).toNat u3716) hk3734))) _).trans ((congrFun ((congrFun e141 109).trans (qw_r_eq.trans (congrArg (fun f => qzu f (7 : Int).toNat 0) ((congrFun e137 109).trans (qw_r_eq.trans (congrArg (fun f => qzu f (6 : Int).toNat u114) hk132)))))) _).trans hx38)) ((congrFun ((congrFun e3739 109).trans (qw_r_eq.trans (congrArg (fun f => qzu f (8 : Int).toNat u3716) hk3734))) _).trans ((congrFun ((congrFun e141 109).trans (qw_r_eq.trans (congrArg (fun f => qzu f (7 : Int).toNat 0) ((congrFun e137 109).trans (qw_r_eq.trans (congrArg (fun f => qzu f (6 : Int).toNat u114) hk132)))))) _).trans hp47.1)) ((congrFun ((congrFun e3739 109).trans (qw_r_eq.trans (congrArg (fun f => qzu f (8 : Int).toNat u3716) hk3734))) _).trans ((congrFun ((congrFun e141 109).trans (qw_r_eq.trans (congrArg (fun f => qzu f (7 : Int).toNat 0) ((congrFun e137 109).trans (qw_r_eq.trans (congrArg (fun f => qzu f (6 : Int).toNat u114) hk132)))))) _).trans (hrv61.trans (congrArg (α 87) (show (0 + x2 : Int).toNat = (x2 : Int).toNat by omega))))) ((congrFun ((congrFun e3739 109).trans (qw_r_eq.trans (congrArg (fun f => qzu f (8 : Int).toNat u3716) hk3734))) _).trans ((congrFun ((congrFun e141 109).trans (qw_r_eq.trans (congrArg (fun f => qzu f (7 : Int).toNat 0) ((congrFun e137 109).trans (qw_r_eq.trans (congrArg (fun f => qzu f (6 : Int).toNat u114) hk132)))))) _).trans (hrv67.trans (congrArg (α 87) (show (0 + x3 : Int).toNat = (x3 : Int).toNat by omega))))) ((congrFun ((congrFun e3739 109).trans (qw_r_eq.trans (congrArg (fun f => qzu f (8 : Int).toNat u3716) hk3734))) _).trans ((congrFun ((congrFun e141 109).trans (qw_r_eq.trans (congrArg (fun f => qzu f (7 : Int).toNat 0) ((congrFun e137 109).trans (qw_r_eq.trans (congrArg (fun f => qzu f (6 : Int).toNat u114) hk132)))))) _).trans hx85)) ((congrFun ((congrFun e3739 109).trans (qw_r_eq.trans (congrArg (fun f => qzu f (8 : Int).toNat u3716) hk3734))) _).trans ((congrFun ((congrFun e141 109).trans (qw_r_eq.trans (congrArg (fun f => qzu f (7 : Int).toNat 0) ((congrFun e137 109).trans (qw_r_eq.trans (congrArg (fun f => qzu f (6 : Int).toNat u114) hk132)))))) _).trans hx134)) ((congrFun ((congrFun e3739 109).trans (qw_r_eq.trans (congrArg (fun f => qzu f (8 : Int).toNat u3716) hk3734))) _).trans (show qsm (qshD (α 91) x2 x5 (σ 86 10) (σ 86 41)) (u3615 : Int).toNat = qsm (qshD (α 91) x2 x5 (σ 86 10) (σ 86 41)) (σ 86 6 : Int).toNat by rw [show (u3615 : Int).toNat = (σ 86 6 : Int).toNat by omega])) ((congrFun ((congrFun e3739 109).trans (qw_r_eq.trans (congrArg (fun f => qzu f (8 : Int).toNat u3716) hk3734))) _).trans hx3736)))⟩
                refine qr_if_ge 266 262 rfl rfl rfl (qrg r4 (by decide) (by decide)) (fun h3781 => ?_) (fun h3781 => ?_)
                · skip
                  refine qr_aload_n 267 rfl g3609 rfl ?_
                  refine qr_iload_n 268 rfl g3611 rfl ?_
                  refine qr_iload 270 rfl g3612 rfl ?_
                  have hs3782 : 0 ≤ σ115 86 6 ∧ σ115 86 6 ≤ 32 := hI3618.1 86 6
                  have hs3783 : σ115 86 6 = (σ 86 6) := (hk119).trans rfl
                  refine qr_callN 273 rfl rfl rfl (sf_187_86x (d := d + 42) hI3618 r2 (by omega) (by omega)) ?_
                  rintro _ _ ⟨σ3786, α3787, rfl, hI3788, hG3789, v3784, rfl, hv3784, hx3785⟩
                  have hF3790 : qFr [(86, 15), (86, 23), (86, 30), (86, 35), (86, 36), (86, 37), (86, 38), (86, 39)] [96, 109] σ α σ3786 α3787 := qFr_t hF3619 hG3789 (by decide) (by decide)
                  rw [hF3619.2 94 (by decide), hF3619.2 95 (by decide), hF3619.1 86 11 (by decide)] at hx3785
                  show qr_W (qe L xs vb) (d + 45) qx_e228 _ (273, _, [.int (qz v3784), .int (qz 8), .ref 109], qw σ3786 α3787 κ ρ, 0, 0)
                  refine qr_bipush 275 rfl (by decide) rfl ?_
                  refine qr_icmp_ne 283 278 rfl rfl rfl (qrg hv3784 (by decide) (by decide)) (by decide) (fun h3791 => ?_) (fun h3791 => ?_)
                  · skip
                    refine qr_aload_n 284 rfl g3609 rfl ?_
                    refine qr_iload_n 285 rfl g3611 rfl ?_
                    refine qr_iload 287 rfl g3612 rfl ?_
                    have hs3792 : 0 ≤ σ3786 86 6 ∧ σ3786 86 6 ≤ 32 := hI3788.1 86 6
                    have hs3793 : σ3786 86 6 = (σ 86 6) := (hG3789.1 86 6 (by decide)).trans ((hk119).trans rfl)
                    refine qr_callN 290 rfl rfl rfl (sf_187_86x (d := d + 42) hI3788 r2 (by omega) (by omega)) ?_
                    rintro _ _ ⟨σ3796, α3797, rfl, hI3798, hG3799, v3794, rfl, hv3794, hx3795⟩
                    have hF3800 : qFr [(86, 15), (86, 23), (86, 30), (86, 35), (86, 36), (86, 37), (86, 38), (86, 39)] [96, 109] σ α σ3796 α3797 := qFr_t hF3790 hG3799 (by decide) (by decide)
                    rw [hF3790.2 94 (by decide), hF3790.2 95 (by decide), hF3790.1 86 11 (by decide)] at hx3795
                    show qr_W (qe L xs vb) (d + 45) qx_e228 _ (290, _, [.int (qz v3794), .int (qz 8), .ref 109], qw σ3796 α3797 κ ρ, 0, 0)
                    exact hJ3737 _ v3794 σ3796 α3797 g3609 g3610 hv3794 hI3798 hF3800 ((hG3799.1 86 6 (by decide)).trans ((hG3789.1 86 6 (by decide)).trans ((hk119).trans rfl))) ((hG3799.1 86 10 (by decide)).trans ((hG3789.1 86 10 (by decide)).trans ((hk120).trans rfl))) ((hG3799.1 86 11 (by decide)).trans ((hG3789.1 86 11 (by decide)).trans ((hk121).trans rfl))) ((hG3799.1 86 16 (by decide)).trans ((hG3789.1 86 16 (by decide)).trans ((hk122).trans rfl))) ((hG3799.1 86 22 (by decide)).trans ((hG3789.1 86 22 (by decide)).trans ((hk123).trans rfl))) ((hG3799.1 86 23 (by decide)).trans ((hG3789.1 86 23 (by decide)).trans ((hk124).trans rfl))) ((hG3799.1 86 24 (by decide)).trans ((hG3789.1 86 24 (by decide)).trans ((hk125).trans rfl))) ((hG3799.1 86 29 (by decide)).trans ((hG3789.1 86 29 (by decide)).trans ((hk126).trans rfl))) ((hG3799.1 86 30 (by decide)).trans ((hG3789.1 86 30 (by decide)).trans ((hk127).trans rfl))) ((hG3799.1 86 41 (by decide)).trans ((hG3789.1 86 41 (by decide)).trans ((hk128).trans rfl))) ((hG3799.2 87 (by decide)).trans ((hG3789.2 87 (by decide)).trans hk3620)) ((hG3799.2 91 (by decide)).trans ((hG3789.2 91 (by decide)).trans hk3621)) ((hG3799.2 108 (by decide)).trans ((hG3789.2 108 (by decide)).trans hk3622)) ((hG3799.2 109 (by decide)).trans ((hG3789.2 109 (by decide)).trans hx3624)) (by rw [if_neg (by omega)]; have h1 := hx3795; have h2 := qd9_r (α 94) (α 95) (σ 86 11) x2 x4; exact qm9_v (by omega))
                  · skip
                    refine qr_bipush 280 rfl (by decide) rfl ?_
                    refine qr_goto 290 rfl rfl ?_
                    exact hJ3737 _ 9 σ3786 α3787 g3609 g3610 (by decide) hI3788 hF3790 ((hG3789.1 86 6 (by decide)).trans ((hk119).trans rfl)) ((hG3789.1 86 10 (by decide)).trans ((hk120).trans rfl)) ((hG3789.1 86 11 (by decide)).trans ((hk121).trans rfl)) ((hG3789.1 86 16 (by decide)).trans ((hk122).trans rfl)) ((hG3789.1 86 22 (by decide)).trans ((hk123).trans rfl)) ((hG3789.1 86 23 (by decide)).trans ((hk124).trans rfl)) ((hG3789.1 86 24 (by decide)).trans ((hk125).trans rfl)) ((hG3789.1 86 29 (by decide)).trans ((hk126).trans rfl)) ((hG3789.1 86 30 (by decide)).trans ((hk127).trans rfl)) ((hG3789.1 86 41 (by decide)).trans ((hk128).trans rfl)) ((hG3789.2 87 (by decide)).trans hk3620) ((hG3789.2 91 (by decide)).trans hk3621) ((hG3789.2 108 (by decide)).trans hk3622) ((hG3789.2 109 (by decide)).trans hx3624) (by rw [if_neg (by omega)]; have h1 := hx3785; have h2 := qd9_r (α 94) (α 95) (σ 86 11) x2 x4; exact qm9_v (by omega))
                · skip
                  refine qr_iconst 263 rfl rfl ?_
                  refine qr_goto 290 rfl rfl ?_
                  exact hJ3737 _ 0 σ115 α3617 g3609 g3610 (by decide) hI3618 hF3619 ((hk119).trans rfl) ((hk120).trans rfl) ((hk121).trans rfl) ((hk122).trans rfl) ((hk123).trans rfl) ((hk124).trans rfl) ((hk125).trans rfl) ((hk126).trans rfl) ((hk127).trans rfl) ((hk128).trans rfl) hk3620 hk3621 hk3622 hx3624 (by rw [if_pos (by omega)])
              · skip
                refine qr_lload 161 rfl g3613 rfl ?_
                refine qr_iload 163 rfl g3614 rfl ?_
                refine qr_lshr 164 rfl rfl ?_
                refine qy_canlE (fun v3801 hv3801 hev3801 => ?_)
                refine qr_lconst 165 rfl rfl ?_
                refine qy_vl 1 rfl ?_
                refine qr_land 166 rfl rfl ?_
                refine qy_canlE (fun v3802 hv3802 hev3802 => ?_)
                refine qr_lconst 167 rfl rfl ?_
                refine qy_vl 1 rfl ?_
                have hJ3834 : ∀ (ls : qm_L) (u3831 : Int), qm_get ls 0 = some (.ref 86) → qm_get ls 1 = some (.int (qz x1)) → qm_get ls 2 = some (.int (qz x2)) → qm_get ls 4 = some (.int (qz x4)) → qm_get ls 5 = some (.long (ql x5)) → qm_get ls 9 = some (.int (qz u3615)) → (0 ≤ u3831 ∧ u3831 ≤ 1) → u3831 = (qshD (α 91) x2 x5 (σ 86 10) (σ 86 41)) (u3615 : Int).toNat → qr_W (qe L xs vb) (d + 45) qx_e228 (fun r w' => ∃ σ' α', w' = qw σ' α' κ ρ ∧ qI σ' α' κ ρ ∧ qFr [(86, 15), (86, 23), (86, 30), (86, 35), (86, 36), (86, 37), (86, 38), (86, 39)] [96, 109] σ α σ' α' ∧ ∃ v : Int, r = some (.int (qz v)) ∧ ((-2147483648) ≤ v ∧ v ≤ 2147483647) ∧ v = g (qNVr σ α (σ 86 29) (σ 86 10) x2 x3 x4 x5 x6)) (223, ls, [.int (qz u3831)], qw σ115 α3617 κ ρ, 0, 0) := by
                  intro ls u3831 g3825 g3826 g3827 g3828 g3829 g3830 hf3832 hx3833
                  refine qr_istore _ 225 rfl (by decide) rfl rfl ?_
                  refine qr_aload_n 226 rfl (qm_gk g3825 (by decide) (Or.inl (by decide))) rfl ?_
                  refine qr_get 229 rfl rfl rfl (by decide) rfl ?_
                  refine qr_bipush 231 rfl (by decide) rfl ?_
                  refine qr_dup2 232 rfl rfl rfl rfl ?_
                  refine qr_iaload 233 rfl rfl (by decide) (by decide) rfl ?_
                  refine qr_topI (fun v3835 hv3835 => ?_)
                  have hs3836 : (-2147483648) ≤ v3835 ∧ v3835 ≤ 2147483647 := by rw [hv3835]; exact hI3618.2.1 109 _ (show _ < 9 by decide)
                  have hrv3835 : v3835 = (qzu (α140 109) (7 : Int).toNat (qsm (qshD (α 91) x2 x5 (σ 86 10) (σ 86 41)) (u3615 : Int).toNat)) (7 : Int).toNat := hv3835.trans (congrFun hx3624 _)
                  refine qr_iload 235 rfl (qm_ge _ _ _) rfl ?_
                  have hJ3846 : ∀ (ls : qm_L) (u3843 : Int), qm_get ls 0 = some (.ref 86) → qm_get ls 1 = some (.int (qz x1)) → qm_get ls 2 = some (.int (qz x2)) → qm_get ls 4 = some (.int (qz x4)) → qm_get ls 5 = some (.long (ql x5)) → qm_get ls 9 = some (.int (qz u3615)) → (0 ≤ u3843 ∧ u3843 ≤ 1) → u3843 = u3831 → qr_W (qe L xs vb) (d + 45) qx_e228 (fun r w' => ∃ σ' α', w' = qw σ' α' κ ρ ∧ qI σ' α' κ ρ ∧ qFr [(86, 15), (86, 23), (86, 30), (86, 35), (86, 36), (86, 37), (86, 38), (86, 39)] [96, 109] σ α σ' α' ∧ ∃ v : Int, r = some (.int (qz v)) ∧ ((-2147483648) ≤ v ∧ v ≤ 2147483647) ∧ v = g (qNVr σ α (σ 86 29) (σ 86 10) x2 x3 x4 x5 x6)) (243, ls, [.int (qz u3843), .int (qz v3835), .int (qz 7), .ref 109], qw σ115 α3617 κ ρ, 0, 0) := by
                    intro ls u3843 g3837 g3838 g3839 g3840 g3841 g3842 hf3844 hx3845
                    refine qr_iadd 244 rfl rfl ?_
                    refine qy_canE (fun v3847 hv3847 hev3847 => ?_)
                    refine qr_iastore 245 rfl (by decide) rfl (by decide) (by decide) rfl ?_
                    refine qy_wA (qw_r α3617 109 (qzu (α3617 109) (7 : Int).toNat v3847)) rfl (fun α3848 e3849 => ?_)
                    have hI3850 : qI σ115 α3848 κ ρ := by rw [e3849]; exact qI_r hI3618 109 _ rfl (show (-2147483648) ≤ v3847 ∧ v3847 ≤ 2147483647 by omega)
                    have hF3851 : qFr [(86, 15), (86, 23), (86, 30), (86, 35), (86, 36), (86, 37), (86, 38), (86, 39)] [96, 109] σ α σ115 α3848 := by rw [e3849]; exact qFr_r hF3619 109 _ (by decide)
                    refine qr_iinc _ 248 rfl g3842 (by decide) rfl rfl ?_
                    refine qr_goto 150 rfl rfl ?_
                    exact ih3627 _ (u3615 + 1) α3848 (by omega) (qm_gk g3837 (by decide) (Or.inl (by decide))) (qm_gk g3838 (by decide) (Or.inl (by decide))) (qm_gk g3839 (by decide) (Or.inl (by decide))) (qm_gk g3840 (by decide) (Or.inl (by decide))) (qm_gk g3841 (by decide) (Or.inl (by decide))) (qm_ge _ _ _) (by omega) hI3850 hF3851 ((congrFun e3849 87).trans ((qw_r_ne (by decide)).trans hk3620)) ((congrFun e3849 91).trans ((qw_r_ne (by decide)).trans hk3621)) ((congrFun e3849 108).trans ((qw_r_ne (by decide)).trans hk3622)) (((congrFun e3849 109).trans (qw_r_eq.trans (congrArg (fun f => qzu f (7 : Int).toNat v3847) hx3624))).trans (qzu_2 (by have a : v3835 = qsm (qshD (α 91) x2 x5 (σ 86 10) (σ 86 41)) (u3615 : Int).toNat := hrv3835; have b := qsm_s (qshD (α 91) x2 x5 (σ 86 10) (σ 86 41)) (i := u3615) (by omega); have c := qshD_01 (α 91) x2 x5 (σ 86 10) (σ 86 41) (u3615 : Int).toNat; have e := qsm_01 (fun r => qshD_01 (α 91) x2 x5 (σ 86 10) (σ 86 41) r) (u3615 : Int).toNat; have h1 := hx3833; have h2 := hx3845; have w := qz_val hev3847 (by omega) (by omega); omega))) (by omega)
                  refine qr_if_eq 242 238 rfl rfl rfl (qrg hf3832 (by decide) (by decide)) (fun h3852 => ?_) (fun h3852 => ?_)
                  · skip
                    refine qr_iconst 243 rfl rfl ?_
                    exact hJ3846 _ 0 (qm_gk g3825 (by decide) (Or.inl (by decide))) (qm_gk g3826 (by decide) (Or.inl (by decide))) (qm_gk g3827 (by decide) (Or.inl (by decide))) (qm_gk g3828 (by decide) (Or.inl (by decide))) (qm_gk g3829 (by decide) (Or.inl (by decide))) (qm_gk g3830 (by decide) (Or.inr rfl)) (by decide) (by omega)
                  · skip
                    refine qr_iconst 239 rfl rfl ?_
                    refine qr_goto 243 rfl rfl ?_
                    exact hJ3846 _ 1 (qm_gk g3825 (by decide) (Or.inl (by decide))) (qm_gk g3826 (by decide) (Or.inl (by decide))) (qm_gk g3827 (by decide) (Or.inl (by decide))) (qm_gk g3828 (by decide) (Or.inl (by decide))) (qm_gk g3829 (by decide) (Or.inl (by decide))) (qm_gk g3830 (by decide) (Or.inr rfl)) (by decide) (by omega)
                refine qr_lc_ne 222 171 rfl rfl rfl rfl hv3802 (by decide) (fun h3853 => ?_) (fun h3853 => ?_)
                · skip
                  refine qr_iconst 223 rfl rfl ?_
                  exact hJ3834 _ 0 g3609 g3610 g3611 g3612 g3613 g3614 (by decide) (by have hb := qbit_inS (t := x5) (i := u3615) (by omega) (by omega) hev3801 hev3802; have hc := qshD_c (α 91) x2 x5 (σ 86 10) (σ 86 41) (i := u3615) (by omega); omega)
                · skip
                  refine qr_aload_n 172 rfl g3609 rfl ?_
                  refine qr_get 175 rfl rfl rfl (by decide) rfl ?_
                  refine qy_v (σ 86 41) ((hk128).trans rfl) ?_
                  refine qr_if_ne 187 178 rfl rfl rfl (qrg hz86_41 (by decide) (by decide)) (fun h3854 => ?_) (fun h3854 => ?_)
                  · skip
                    refine qr_iload 189 rfl g3614 rfl ?_
                    refine qr_iload_n 190 rfl g3611 rfl ?_
                    refine qr_icmp_eq 218 193 rfl rfl rfl (qrg hf3623 (by decide) (by decide)) (qrg r2 (by decide) (by decide)) (fun h3855 => ?_) (fun h3855 => ?_)
                    · skip
                      refine qr_iconst 219 rfl rfl ?_
                      refine qr_goto 223 rfl rfl ?_
                      exact hJ3834 _ 1 g3609 g3610 g3611 g3612 g3613 g3614 (by decide) (by have hb := qbit_inS (t := x5) (i := u3615) (by omega) (by omega) hev3801 hev3802; have hc := qshD_c (α 91) x2 x5 (σ 86 10) (σ 86 41) (i := u3615) (by omega); omega)
                    · skip
                      refine qr_aload_n 194 rfl g3609 rfl ?_
                      refine qr_get 197 rfl rfl rfl (by decide) rfl ?_
                      refine qr_iload_n 198 rfl g3611 rfl ?_
                      refine qr_iaload 199 rfl rfl (qrgi r2 (by decide) (by decide)) (by decide) rfl ?_
                      refine qr_topI (fun v3856 hv3856 => ?_)
                      have hs3857 : (-1) ≤ v3856 ∧ v3856 ≤ 31 := by rw [hv3856]; exact hI3618.2.1 91 _ (show _ < 32 from qrgt r2 (by decide) (by decide))
                      have hrv3856 : v3856 = (α 91) (x2 : Int).toNat := hv3856.trans (congrFun hk3621 _)
                      have hs3858 := hI3618.2.2.2.2.2.2.1 (x2 : Int).toNat (by omega)
                      refine qr_if_lt 222 202 rfl rfl rfl (qrg hs3857 (by decide) (by decide)) (fun h3859 => ?_) (fun h3859 => ?_)
                      · skip
                        refine qr_iconst 223 rfl rfl ?_
                        exact hJ3834 _ 0 g3609 g3610 g3611 g3612 g3613 g3614 (by decide) (by have hb := qbit_inS (t := x5) (i := u3615) (by omega) (by omega) hev3801 hev3802; have hc := qshD_c (α 91) x2 x5 (σ 86 10) (σ 86 41) (i := u3615) (by omega); omega)
                      · skip
                        refine qr_aload_n 203 rfl g3609 rfl ?_
                        refine qr_get 206 rfl rfl rfl (by decide) rfl ?_
                        refine qr_iload 208 rfl g3614 rfl ?_
                        refine qr_iaload 209 rfl rfl (by omega) (by decide) rfl ?_
                        refine qr_topI (fun v3860 hv3860 => ?_)
                        have hs3861 : (-1) ≤ v3860 ∧ v3860 ≤ 31 := by rw [hv3860]; exact hI3618.2.1 91 _ (show _ < 32 by omega)
                        have hrv3860 : v3860 = (α 91) (u3615 : Int).toNat := hv3860.trans (congrFun hk3621 _)
                        have hs3862 := hI3618.2.2.2.2.2.2.1 (u3615 : Int).toNat (by omega)
                        refine qr_aload_n 210 rfl g3609 rfl ?_
                        refine qr_get 213 rfl rfl rfl (by decide) rfl ?_
                        refine qr_iload_n 214 rfl g3611 rfl ?_
                        refine qr_iaload 215 rfl rfl (qrgi r2 (by decide) (by decide)) (by decide) rfl ?_
                        refine qr_topI (fun v3863 hv3863 => ?_)
                        have hs3864 : (-1) ≤ v3863 ∧ v3863 ≤ 31 := by rw [hv3863]; exact hI3618.2.1 91 _ (show _ < 32 from qrgt r2 (by decide) (by decide))
                        have hrv3863 : v3863 = (α 91) (x2 : Int).toNat := hv3863.trans (congrFun hk3621 _)
                        have hs3865 := hI3618.2.2.2.2.2.2.1 (x2 : Int).toNat (by omega)
                        refine qr_icmp_ne 222 218 rfl rfl rfl (qrg hs3861 (by decide) (by decide)) (qrg hs3864 (by decide) (by decide)) (fun h3866 => ?_) (fun h3866 => ?_)
                        · skip
                          refine qr_iconst 223 rfl rfl ?_
                          exact hJ3834 _ 0 g3609 g3610 g3611 g3612 g3613 g3614 (by decide) (by have hb := qbit_inS (t := x5) (i := u3615) (by omega) (by omega) hev3801 hev3802; have hc := qshD_c (α 91) x2 x5 (σ 86 10) (σ 86 41) (i := u3615) (by omega); omega)
                        · skip
                          refine qr_iconst 219 rfl rfl ?_
                          refine qr_goto 223 rfl rfl ?_
                          exact hJ3834 _ 1 g3609 g3610 g3611 g3612 g3613 g3614 (by decide) (by have hb := qbit_inS (t := x5) (i := u3615) (by omega) (by omega) hev3801 hev3802; have hc := qshD_c (α 91) x2 x5 (σ 86 10) (σ 86 41) (i := u3615) (by omega); omega)
                  · skip
                    refine qr_aload_n 179 rfl g3609 rfl ?_
                    refine qr_iload 181 rfl g3614 rfl ?_
                    refine qr_callN 184 rfl rfl rfl (sf_181_86x (d := d + 44) hI3618 (by omega)) ?_
                    have hs3869 : (-9223372036854775808) ≤ σ115 86 10 ∧ σ115 86 10 ≤ 9223372036854775807 := hI3618.1 86 10
                    have hs3870 : σ115 86 10 = (σ 86 10) := (hk120).trans rfl
                    rintro _ _ ⟨rfl, v3867, rfl, hv3867, hp3868⟩
                    rw [hF3619.1 86 10 (by decide)] at hp3868
                    show qr_W (qe L xs vb) (d + 45) qx_e228 _ (184, _, [.int (qz v3867)], qw σ115 α3617 κ ρ, 0, 0)
                    refine qr_if_ne 222 187 rfl rfl rfl (qrg hv3867 (by decide) (by decide)) (fun h3871 => ?_) (fun h3871 => ?_)
                    · skip
                      refine qr_iconst 223 rfl rfl ?_
                      exact hJ3834 _ 0 g3609 g3610 g3611 g3612 g3613 g3614 (by decide) (by have hb := qbit_inS (t := x5) (i := u3615) (by omega) (by omega) hev3801 hev3802; have hc := qshD_c (α 91) x2 x5 (σ 86 10) (σ 86 41) (i := u3615) (by omega); omega)
                    · skip
                      refine qr_iload 189 rfl g3614 rfl ?_
                      refine qr_iload_n 190 rfl g3611 rfl ?_
                      refine qr_icmp_eq 218 193 rfl rfl rfl (qrg hf3623 (by decide) (by decide)) (qrg r2 (by decide) (by decide)) (fun h3872 => ?_) (fun h3872 => ?_)
                      · skip
                        refine qr_iconst 219 rfl rfl ?_
                        refine qr_goto 223 rfl rfl ?_
                        exact hJ3834 _ 1 g3609 g3610 g3611 g3612 g3613 g3614 (by decide) (by have hb := qbit_inS (t := x5) (i := u3615) (by omega) (by omega) hev3801 hev3802; have hc := qshD_c (α 91) x2 x5 (σ 86 10) (σ 86 41) (i := u3615) (by omega); omega)
                      · skip
                        refine qr_aload_n 194 rfl g3609 rfl ?_
                        refine qr_get 197 rfl rfl rfl (by decide) rfl ?_
                        refine qr_iload_n 198 rfl g3611 rfl ?_
                        refine qr_iaload 199 rfl rfl (qrgi r2 (by decide) (by decide)) (by decide) rfl ?_
                        refine qr_topI (fun v3873 hv3873 => ?_)
                        have hs3874 : (-1) ≤ v3873 ∧ v3873 ≤ 31 := by rw [hv3873]; exact hI3618.2.1 91 _ (show _ < 32 from qrgt r2 (by decide) (by decide))
                        have hrv3873 : v3873 = (α 91) (x2 : Int).toNat := hv3873.trans (congrFun hk3621 _)
                        have hs3875 := hI3618.2.2.2.2.2.2.1 (x2 : Int).toNat (by omega)
                        refine qr_if_lt 222 202 rfl rfl rfl (qrg hs3874 (by decide) (by decide)) (fun h3876 => ?_) (fun h3876 => ?_)
                        · skip
                          refine qr_iconst 223 rfl rfl ?_
                          exact hJ3834 _ 0 g3609 g3610 g3611 g3612 g3613 g3614 (by decide) (by have hb := qbit_inS (t := x5) (i := u3615) (by omega) (by omega) hev3801 hev3802; have hc := qshD_c (α 91) x2 x5 (σ 86 10) (σ 86 41) (i := u3615) (by omega); omega)
                        · skip
                          refine qr_aload_n 203 rfl g3609 rfl ?_
                          refine qr_get 206 rfl rfl rfl (by decide) rfl ?_
                          refine qr_iload 208 rfl g3614 rfl ?_
                          refine qr_iaload 209 rfl rfl (by omega) (by decide) rfl ?_
                          refine qr_topI (fun v3877 hv3877 => ?_)
                          have hs3878 : (-1) ≤ v3877 ∧ v3877 ≤ 31 := by rw [hv3877]; exact hI3618.2.1 91 _ (show _ < 32 by omega)
                          have hrv3877 : v3877 = (α 91) (u3615 : Int).toNat := hv3877.trans (congrFun hk3621 _)
                          have hs3879 := hI3618.2.2.2.2.2.2.1 (u3615 : Int).toNat (by omega)
                          refine qr_aload_n 210 rfl g3609 rfl ?_
                          refine qr_get 213 rfl rfl rfl (by decide) rfl ?_
                          refine qr_iload_n 214 rfl g3611 rfl ?_
                          refine qr_iaload 215 rfl rfl (qrgi r2 (by decide) (by decide)) (by decide) rfl ?_
                          refine qr_topI (fun v3880 hv3880 => ?_)
                          have hs3881 : (-1) ≤ v3880 ∧ v3880 ≤ 31 := by rw [hv3880]; exact hI3618.2.1 91 _ (show _ < 32 from qrgt r2 (by decide) (by decide))
                          have hrv3880 : v3880 = (α 91) (x2 : Int).toNat := hv3880.trans (congrFun hk3621 _)
                          have hs3882 := hI3618.2.2.2.2.2.2.1 (x2 : Int).toNat (by omega)
                          refine qr_icmp_ne 222 218 rfl rfl rfl (qrg hs3878 (by decide) (by decide)) (qrg hs3881 (by decide) (by decide)) (fun h3883 => ?_) (fun h3883 => ?_)
                          · skip
                            refine qr_iconst 223 rfl rfl ?_
                            exact hJ3834 _ 0 g3609 g3610 g3611 g3612 g3613 g3614 (by decide) (by have hb := qbit_inS (t := x5) (i := u3615) (by omega) (by omega) hev3801 hev3802; have hc := qshD_c (α 91) x2 x5 (σ 86 10) (σ 86 41) (i := u3615) (by omega); omega)
                          · skip
                            refine qr_iconst 219 rfl rfl ?_
                            refine qr_goto 223 rfl rfl ?_
                            exact hJ3834 _ 1 g3609 g3610 g3611 g3612 g3613 g3614 (by decide) (by have hb := qbit_inS (t := x5) (i := u3615) (by omega) (by omega) hev3801 hev3802; have hc := qshD_c (α 91) x2 x5 (σ 86 10) (σ 86 41) (i := u3615) (by omega); omega)
          exact hL3626 ((32 - 0 + 1 : Int)).toNat _ 0 α140 (by omega) (qm_gk g109 (by decide) (Or.inl (by decide))) (qm_gk g110 (by decide) (Or.inl (by decide))) (qm_gk g111 (by decide) (Or.inl (by decide))) (qm_gk g112 (by decide) (Or.inl (by decide))) (qm_gk g113 (by decide) (Or.inl (by decide))) (qm_ge _ _ _) (by decide) hI142 hF143 ((congrFun e141 87).trans ((qw_r_ne (by decide)).trans ((congrFun e137 87).trans ((qw_r_ne (by decide)).trans hk129)))) ((congrFun e141 91).trans ((qw_r_ne (by decide)).trans ((congrFun e137 91).trans ((qw_r_ne (by decide)).trans hk130)))) ((congrFun e141 108).trans ((qw_r_ne (by decide)).trans ((congrFun e137 108).trans ((qw_r_ne (by decide)).trans hk131)))) (qzu_self (show qsm (qshD (α 91) x2 x5 (σ 86 10) (σ 86 41)) (0 : Int).toNat = α140 109 (7 : Int).toNat from (congrFun ((congrFun e141 109).trans (qw_r_eq.trans (congrArg (fun f => qzu f (7 : Int).toNat 0) ((congrFun e137 109).trans (qw_r_eq.trans (congrArg (fun f => qzu f (6 : Int).toNat u114) hk132)))))) (7 : Int).toNat).symm)) (by omega)
        refine qr_icmp_ne 132 127 rfl rfl rfl (qrg hv93 (by decide) (by decide)) (by decide) (fun h3884 => ?_) (fun h3884 => ?_)
        · skip
          refine qr_aload_n 133 rfl g77 rfl ?_
          refine qr_iload_n 134 rfl g79 rfl ?_
          refine qr_iload_n 135 rfl g80 rfl ?_
          have hs3885 : 0 ≤ σ95 86 6 ∧ σ95 86 6 ≤ 32 := hI97.1 86 6
          have hs3886 : σ95 86 6 = (σ 86 6) := (hG98.1 86 6 (by decide)).trans ((hG54.1 86 6 (by decide)).trans ((hG10.1 86 6 (by decide)).trans rfl))
          refine qr_callN 138 rfl rfl rfl (sf_187_86x (d := d + 42) hI97 r2 r3 (by omega)) ?_
          rintro _ _ ⟨σ3889, α3890, rfl, hI3891, hG3892, v3887, rfl, hv3887, hx3888⟩
          have hF3893 : qFr [(86, 15), (86, 23), (86, 30), (86, 35), (86, 36), (86, 37), (86, 38), (86, 39)] [96, 109] σ α σ3889 α3890 := qFr_t hF99 hG3892 (by decide) (by decide)
          rw [hF99.2 94 (by decide), hF99.2 95 (by decide), hF99.1 86 11 (by decide)] at hx3888
          show qr_W (qe L xs vb) (d + 45) qx_e228 _ (138, _, [.int (qz v3887), .int (qz 6), .ref 109], qw σ3889 α3890 κ ρ, 0, 0)
          exact hJ135 _ v3887 σ3889 α3890 g77 g78 g79 g81 g82 hv3887 hI3891 hF3893 ((hG3892.1 86 6 (by decide)).trans ((hG98.1 86 6 (by decide)).trans ((hG54.1 86 6 (by decide)).trans ((hG10.1 86 6 (by decide)).trans rfl)))) ((hG3892.1 86 10 (by decide)).trans ((hG98.1 86 10 (by decide)).trans ((hG54.1 86 10 (by decide)).trans ((hG10.1 86 10 (by decide)).trans rfl)))) ((hG3892.1 86 11 (by decide)).trans ((hG98.1 86 11 (by decide)).trans ((hG54.1 86 11 (by decide)).trans ((hG10.1 86 11 (by decide)).trans rfl)))) ((hG3892.1 86 16 (by decide)).trans ((hG98.1 86 16 (by decide)).trans ((hG54.1 86 16 (by decide)).trans ((hG10.1 86 16 (by decide)).trans rfl)))) ((hG3892.1 86 22 (by decide)).trans ((hG98.1 86 22 (by decide)).trans ((hG54.1 86 22 (by decide)).trans ((hG10.1 86 22 (by decide)).trans rfl)))) ((hG3892.1 86 23 (by decide)).trans ((hG98.1 86 23 (by decide)).trans ((hG54.1 86 23 (by decide)).trans rfl))) ((hG3892.1 86 24 (by decide)).trans ((hG98.1 86 24 (by decide)).trans ((hG54.1 86 24 (by decide)).trans ((hG10.1 86 24 (by decide)).trans rfl)))) ((hG3892.1 86 29 (by decide)).trans ((hG98.1 86 29 (by decide)).trans ((hG54.1 86 29 (by decide)).trans ((hG10.1 86 29 (by decide)).trans rfl)))) ((hG3892.1 86 30 (by decide)).trans ((hG98.1 86 30 (by decide)).trans rfl)) ((hG3892.1 86 41 (by decide)).trans ((hG98.1 86 41 (by decide)).trans ((hG54.1 86 41 (by decide)).trans ((hG10.1 86 41 (by decide)).trans rfl)))) ((hG3892.2 87 (by decide)).trans ((hG98.2 87 (by decide)).trans ((congrFun e88 87).trans ((qw_r_ne (by decide)).trans ((congrFun e70 87).trans ((qw_r_ne (by decide)).trans ((congrFun e64 87).trans ((qw_r_ne (by decide)).trans ((congrFun e58 87).trans ((qw_r_ne (by decide)).trans ((congrFun e41 87).trans ((qw_r_ne (by decide)).trans ((congrFun e26 87).trans ((qw_r_ne (by decide)).trans ((hG10.2 87 (by decide)).trans rfl))))))))))))))) ((hG3892.2 91 (by decide)).trans ((hG98.2 91 (by decide)).trans ((congrFun e88 91).trans ((qw_r_ne (by decide)).trans ((congrFun e70 91).trans ((qw_r_ne (by decide)).trans ((congrFun e64 91).trans ((qw_r_ne (by decide)).trans ((congrFun e58 91).trans ((qw_r_ne (by decide)).trans ((congrFun e41 91).trans ((qw_r_ne (by decide)).trans ((congrFun e26 91).trans ((qw_r_ne (by decide)).trans ((hG10.2 91 (by decide)).trans rfl))))))))))))))) ((hG3892.2 108 (by decide)).trans ((hG98.2 108 (by decide)).trans ((congrFun e88 108).trans ((qw_r_ne (by decide)).trans ((congrFun e70 108).trans ((qw_r_ne (by decide)).trans ((congrFun e64 108).trans ((qw_r_ne (by decide)).trans ((congrFun e58 108).trans ((qw_r_ne (by decide)).trans ((congrFun e41 108).trans ((qw_r_ne (by decide)).trans ((congrFun e26 108).trans ((qw_r_ne (by decide)).trans ((hG10.2 108 (by decide)).trans rfl))))))))))))))) ((hG3892.2 109 (by decide)).trans ((hG98.2 109 (by decide)).trans ((congrFun e88 109).trans (qw_r_eq.trans (congrArg (fun f => qzu f (5 : Int).toNat u83) ((congrFun e70 109).trans (qw_r_eq.trans (congrArg (fun f => qzu f (4 : Int).toNat v67) ((congrFun e64 109).trans (qw_r_eq.trans (congrArg (fun f => qzu f (3 : Int).toNat v61) ((congrFun e58 109).trans (qw_r_eq.trans (congrArg (fun f => qzu f (2 : Int).toNat v46) ((congrFun e41 109).trans (qw_r_eq.trans (congrArg (fun f => qzu f (1 : Int).toNat u36) ((congrFun e26 109).trans (qw_r_eq.trans (congrArg (fun f => qzu f (0 : Int).toNat u21) ((hG10.2 109 (by decide)).trans rfl))))))))))))))))))))) (by have h1 := hx3888; have h2 := qd9_r (α 94) (α 95) (σ 86 11) x2 x3; exact qm9_v (by omega))
        · skip
          refine qr_bipush 129 rfl (by decide) rfl ?_
          refine qr_goto 138 rfl rfl ?_
          exact hJ135 _ 9 σ95 α96 g77 g78 g79 g81 g82 (by decide) hI97 hF99 ((hG98.1 86 6 (by decide)).trans ((hG54.1 86 6 (by decide)).trans ((hG10.1 86 6 (by decide)).trans rfl))) ((hG98.1 86 10 (by decide)).trans ((hG54.1 86 10 (by decide)).trans ((hG10.1 86 10 (by decide)).trans rfl))) ((hG98.1 86 11 (by decide)).trans ((hG54.1 86 11 (by decide)).trans ((hG10.1 86 11 (by decide)).trans rfl))) ((hG98.1 86 16 (by decide)).trans ((hG54.1 86 16 (by decide)).trans ((hG10.1 86 16 (by decide)).trans rfl))) ((hG98.1 86 22 (by decide)).trans ((hG54.1 86 22 (by decide)).trans ((hG10.1 86 22 (by decide)).trans rfl))) ((hG98.1 86 23 (by decide)).trans ((hG54.1 86 23 (by decide)).trans rfl)) ((hG98.1 86 24 (by decide)).trans ((hG54.1 86 24 (by decide)).trans ((hG10.1 86 24 (by decide)).trans rfl))) ((hG98.1 86 29 (by decide)).trans ((hG54.1 86 29 (by decide)).trans ((hG10.1 86 29 (by decide)).trans rfl))) ((hG98.1 86 30 (by decide)).trans rfl) ((hG98.1 86 41 (by decide)).trans ((hG54.1 86 41 (by decide)).trans ((hG10.1 86 41 (by decide)).trans rfl))) ((hG98.2 87 (by decide)).trans ((congrFun e88 87).trans ((qw_r_ne (by decide)).trans ((congrFun e70 87).trans ((qw_r_ne (by decide)).trans ((congrFun e64 87).trans ((qw_r_ne (by decide)).trans ((congrFun e58 87).trans ((qw_r_ne (by decide)).trans ((congrFun e41 87).trans ((qw_r_ne (by decide)).trans ((congrFun e26 87).trans ((qw_r_ne (by decide)).trans ((hG10.2 87 (by decide)).trans rfl)))))))))))))) ((hG98.2 91 (by decide)).trans ((congrFun e88 91).trans ((qw_r_ne (by decide)).trans ((congrFun e70 91).trans ((qw_r_ne (by decide)).trans ((congrFun e64 91).trans ((qw_r_ne (by decide)).trans ((congrFun e58 91).trans ((qw_r_ne (by decide)).trans ((congrFun e41 91).trans ((qw_r_ne (by decide)).trans ((congrFun e26 91).trans ((qw_r_ne (by decide)).trans ((hG10.2 91 (by decide)).trans rfl)))))))))))))) ((hG98.2 108 (by decide)).trans ((congrFun e88 108).trans ((qw_r_ne (by decide)).trans ((congrFun e70 108).trans ((qw_r_ne (by decide)).trans ((congrFun e64 108).trans ((qw_r_ne (by decide)).trans ((congrFun e58 108).trans ((qw_r_ne (by decide)).trans ((congrFun e41 108).trans ((qw_r_ne (by decide)).trans ((congrFun e26 108).trans ((qw_r_ne (by decide)).trans ((hG10.2 108 (by decide)).trans rfl)))))))))))))) ((hG98.2 109 (by decide)).trans ((congrFun e88 109).trans (qw_r_eq.trans (congrArg (fun f => qzu f (5 : Int).toNat u83) ((congrFun e70 109).trans (qw_r_eq.trans (congrArg (fun f => qzu f (4 : Int).toNat v67) ((congrFun e64 109).trans (qw_r_eq.trans (congrArg (fun f => qzu f (3 : Int).toNat v61) ((congrFun e58 109).trans (qw_r_eq.trans (congrArg (fun f => qzu f (2 : Int).toNat v46) ((congrFun e41 109).trans (qw_r_eq.trans (congrArg (fun f => qzu f (1 : Int).toNat u36) ((congrFun e26 109).trans (qw_r_eq.trans (congrArg (fun f => qzu f (0 : Int).toNat u21) ((hG10.2 109 (by decide)).trans rfl)))))))))))))))))))) (by have h1 := hx94; have h2 := qd9_r (α 94) (α 95) (σ 86 11) x2 x3; exact qm9_v (by omega))
      refine qr_if_eq 108 104 rfl rfl rfl (qrg hv75 (by decide) (by decide)) (fun h3894 => ?_) (fun h3894 => ?_)
      · skip
        refine qr_iconst 109 rfl rfl ?_
        exact hJ86 _ 0 g29 g30 g31 g32 g33 g34 (by decide) (by have h1 := hp76; omega)
      · skip
        refine qr_iconst 105 rfl rfl ?_
        refine qr_goto 109 rfl rfl ?_
        exact hJ86 _ 1 g29 g30 g31 g32 g33 g34 (by decide) (by have h1 := hp76; omega)
    refine qr_icmp_ne 45 40 rfl rfl rfl (qrg hv2 (by decide) (by decide)) (by decide) (fun h3895 => ?_) (fun h3895 => ?_)
    · skip
      refine qr_iload 47 rfl g20 rfl ?_
      exact hJ39 _ v2 g13 g14 g15 g16 g17 g18 g19 (by omega) (by have h1 := hp3; have h2 := qnF_le (qd9 (α 94) (α 95) (σ 86 11)) (α 97) (α 98) (α 100) (α 99) (qsh (α 87) 32) (σ 86 22) (σ 86 16) x2 x3 x6; omega)
    · skip
      refine qr_bipush 42 rfl (by decide) rfl ?_
      refine qr_goto 47 rfl rfl ?_
      exact hJ39 _ 9 g13 g14 g15 g16 g17 g18 g19 (by decide) (by have h1 := hp3; have h2 := qnF_le (qd9 (α 94) (α 95) (σ 86 11)) (α 97) (α 98) (α 100) (α 99) (qsh (α 87) 32) (σ 86 22) (σ 86 16) x2 x3 x6; omega)
  refine qr_icmp_ne 26 22 rfl rfl rfl (qrg hv2 (by decide) (by decide)) (by decide) (fun h3896 => ?_) (fun h3896 => ?_)
  · skip
    refine qr_iconst 27 rfl rfl ?_
    exact hJ24 _ 1 rfl rfl rfl rfl rfl rfl rfl rfl (by decide) (by have h1 := hp3; unfold qnF1; rw [if_pos (by omega)])
  · skip
    refine qr_iconst 23 rfl rfl ?_
    refine qr_goto 27 rfl rfl ?_
    exact hJ24 _ 0 rfl rfl rfl rfl rfl rfl rfl rfl (by decide) (by have h1 := hp3; unfold qnF1; rw [if_neg (by omega)])
end
