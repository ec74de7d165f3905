/-! what a custom gives for two: the reference -/
def qshD (ld : Nat → Int) (p t de ad : Int) (r : Nat) : Int := if qbit t (r : Int) = 1 ∧ (¬ ad = 0 ∨ qbit de (r : Int) = 0) ∧ ((r : Int) = p ∨ (0 ≤ ld p.toNat ∧ ld r = ld p.toNat)) then 1 else 0
theorem qshD_c (ld : Nat → Int) (p t de ad : Int) {i : Int} (h : 0 ≤ i) : (qshD ld p t de ad i.toNat = 1 ∧ qbit t i = 1 ∧ (¬ ad = 0 ∨ qbit de i = 0) ∧ (i = p ∨ (0 ≤ ld p.toNat ∧ ld i.toNat = ld p.toNat))) ∨ (qshD ld p t de ad i.toNat = 0 ∧ ¬ (qbit t i = 1 ∧ (¬ ad = 0 ∨ qbit de i = 0) ∧ (i = p ∨ (0 ≤ ld p.toNat ∧ ld i.toNat = ld p.toNat)))) := by
  have e : ((i.toNat : Nat) : Int) = i := by omega
  unfold qshD
  rw [e]
  by_cases c : qbit t i = 1 ∧ (¬ ad = 0 ∨ qbit de i = 0) ∧ (i = p ∨ (0 ≤ ld p.toNat ∧ ld i.toNat = ld p.toNat))
  · exact Or.inl ⟨if_pos c, c⟩
  · exact Or.inr ⟨if_neg c, c⟩
theorem qshD_01 (ld : Nat → Int) (p t de ad : Int) (r : Nat) : 0 ≤ qshD ld p t de ad r ∧ qshD ld p t de ad r ≤ 1 := by
  unfold qshD
  split <;> omega
def qdf (u : Int) (N : Nat → Int) : Int := if u = 0 then (if N 0 = 1 ∧ N 2 = 0 then 1 else 0) else (if N 8 < 2 ∧ N 3 = 1 then 1 else 0)
theorem qnk_le (o c : Nat → Int) : ∀ n : Nat, qnk o c n ≤ 576
  | 0 => Int.le_refl _
  | n + 1 => by
    have h := qnk_le o c n
    show (if o n = 1 ∧ c n * 64 + (n : Int) < qnk o c n then c n * 64 + (n : Int) else qnk o c n) ≤ 576
    split <;> omega
theorem qnF_le (D : Int → Int → Int) (kd kr bd sn pd : Nat → Int) (st n p q h : Int) : qnF D kd kr bd sn pd st n p q h ≤ 576 := qnk_le _ _ _
theorem qzu_2 {f : Nat → Int} {k : Nat} {a b c : Int} (h : b = c) : qzu (qzu f k a) k b = qzu f k c := by
  funext j
  unfold qzu
  split
  · exact h
  · rfl
theorem qm9_v {v w : Int} (h : (v = 9 ∧ w = 99) ∨ (v = w ∧ w ≤ 9)) : v = qm9 w := by
  unfold qm9
  split <;> omega
theorem qgo_v {g : (Nat → Int) → Int} {N N' : Nat → Int} (hg : ∀ N N' : Nat → Int, (∀ k : Nat, k < 9 → N k = N' k) → g N = g N') (h0 : N 0 = N' 0) (h1 : N 1 = N' 1) (h2 : N 2 = N' 2) (h3 : N 3 = N' 3) (h4 : N 4 = N' 4) (h5 : N 5 = N' 5) (h6 : N 6 = N' 6) (h7 : N 7 = N' 7) (h8 : N 8 = N' 8) : g N = g N' := by
  refine hg N N' (fun k hk => ?_)
  have h : k = 0 ∨ k = 1 ∨ k = 2 ∨ k = 3 ∨ k = 4 ∨ k = 5 ∨ k = 6 ∨ k = 7 ∨ k = 8 := by omega
  rcases h with rfl | rfl | rfl | rfl | rfl | rfl | rfl | rfl | rfl
  · exact h0
  · exact h1
  · exact h2
  · exact h3
  · exact h4
  · exact h5
  · exact h6
  · exact h7
  · exact h8
def qPG (σ α : Nat → Nat → Int) (u : Int) (g : (Nat → Int) → Int) : Prop := (∀ N : Nat → Int, (0 ≤ α 108 u.toNat → (qtx_W (fun j => α 107 ((120 * u).toNat + j)) (α 108 u.toNat) N).2.2 = 0 ∧ (qtx_W (fun j => α 107 ((120 * u).toNat + j)) (α 108 u.toNat) N).1 = g N) ∧ (α 108 u.toNat < 0 → qdf u N = g N)) ∧ ∀ N N' : Nat → Int, (∀ k : Nat, k < 9 → N k = N' k) → g N = g N'
theorem qPG_fr {S : List (Nat × Nat)} {R : List Nat} {σ α σ' α' : Nat → Nat → Int} {u : Int} {g : (Nat → Int) → Int} (hG : qFr S R σ α σ' α') (hs : ([] : List (Nat × Nat)).all (fun x => !S.contains x) = true) (hr : [107, 108].all (fun x => !R.contains x) = true) (h : qPG σ α u g) : qPG σ' α' u g := by
  have es : ∀ a k, (a, k) ∈ ([] : List (Nat × Nat)) → σ' a k = σ a k := fun a k hm => hG.1 a k (fun hn => by
    have h1 := List.all_eq_true.mp hs (a, k) hm
    rw [List.contains_iff_mem.mpr hn] at h1
    exact absurd h1 (by decide))
  have er : ∀ a, a ∈ [107, 108] → α' a = α a := fun a hm => hG.2 a (fun hn => by
    have h1 := List.all_eq_true.mp hr a hm
    rw [List.contains_iff_mem.mpr hn] at h1
    exact absurd h1 (by decide))
  unfold qPG
  rw [er 107 (by decide), er 108 (by decide)]
  exact h
noncomputable def qNVr (σ α : Nat → Nat → Int) (b de p q st th h : Int) : Nat → Int := qnv (qnF1 (qnF (qd9 (α 94) (α 95) (σ 86 11)) (α 97) (α 98) (α 100) (α 99) (qsh (α 87) 32) (σ 86 22) (σ 86 16) p q h)) (qnF (qd9 (α 94) (α 95) (σ 86 11)) (α 97) (α 98) (α 100) (α 99) (qsh (α 87) 32) (σ 86 22) (σ 86 16) p q h / 64) (qsm (qhG b (qhF (qsh (α 87) 192) (α 102) (α 103) (qun (α 104) (α 105) (qsh (α 87) 192)) (qcw (α 87)) (qll (α 91)) p q h)) (σ 86 24 : Int).toNat) (α 87 (p : Int).toNat) (α 87 (q : Int).toNat) (qll (α 91) (α 91 (p : Int).toNat) q) (qm9 (qd9 (α 94) (α 95) (σ 86 11) p q)) (qsm (qshD (α 91) p th de (σ 86 41)) (σ 86 6 : Int).toNat) (if st = -1 then 0 else qm9 (qd9 (α 94) (α 95) (σ 86 11) p st))
theorem qNVr_fr {S : List (Nat × Nat)} {R : List Nat} {σ α σ' α' : Nat → Nat → Int} (hG : qFr S R σ α σ' α') (hs : [(86, 6), (86, 11), (86, 16), (86, 22), (86, 24), (86, 41)].all (fun x => !S.contains x) = true) (hr : [87, 91, 94, 95, 97, 98, 99, 100, 102, 103, 104, 105].all (fun x => !R.contains x) = true) : qNVr σ' α' = qNVr σ α := by
  have es : ∀ a k, (a, k) ∈ [(86, 6), (86, 11), (86, 16), (86, 22), (86, 24), (86, 41)] → σ' a k = σ a k := fun a k hm => hG.1 a k (fun hn => by
    have h1 := List.all_eq_true.mp hs (a, k) hm
    rw [List.contains_iff_mem.mpr hn] at h1
    exact absurd h1 (by decide))
  have er : ∀ a, a ∈ [87, 91, 94, 95, 97, 98, 99, 100, 102, 103, 104, 105] → α' a = α a := fun a hm => hG.2 a (fun hn => by
    have h1 := List.all_eq_true.mp hr a hm
    rw [List.contains_iff_mem.mpr hn] at h1
    exact absurd h1 (by decide))
  unfold qNVr
  rw [es 86 6 (by decide), es 86 11 (by decide), es 86 16 (by decide), es 86 22 (by decide), es 86 24 (by decide), es 86 41 (by decide), er 87 (by decide), er 91 (by decide), er 94 (by decide), er 95 (by decide), er 97 (by decide), er 98 (by decide), er 99 (by decide), er 100 (by decide), er 102 (by decide), er 103 (by decide), er 104 (by decide), er 105 (by decide)]

set_option maxHeartbeats 4000000 in
set_option maxRecDepth 20000 in
/-- OneRoofModel.isDead -/
theorem sf_181_86x {L : Nat} {xs : Nat → Int} {vb : Bool} {d : Nat} {σ α : Nat → Nat → Int} {κ : Nat → Option Nat} {ρ : Nat} {x1 : Int} (hI : qI σ α κ ρ) (r1 : 0 ≤ x1 ∧ x1 ≤ 31) : qm_T (qe L xs vb) (d + 1) 181 [.ref 86, .int (qz x1)] (qw σ α κ ρ) (fun r w' => w' = qw σ α κ ρ ∧ ∃ v : Int, r = some (.int (qz v)) ∧ (0 ≤ v ∧ v ≤ 1) ∧ v = qbit (σ 86 10) x1) := by
  refine qr_start (d := d + 0) qv_e181 (Nat.le_of_ble_eq_true rfl) ?_
  show qr_W (qe L xs vb) (d + 0) qx_e181 _ (0, [(0, .ref 86), (1, .int (qz x1))], [], _, 0, 0)
  have hz86_10 : (-9223372036854775808) ≤ σ 86 10 ∧ σ 86 10 ≤ 9223372036854775807 := hI.1 86 10
  refine qr_aload_n 1 rfl rfl rfl ?_
  refine qr_get 4 rfl rfl rfl (by decide) rfl ?_
  refine qr_iload_n 5 rfl rfl rfl ?_
  refine qr_lshr 6 rfl rfl ?_
  refine qy_canlE (fun v1 hv1 hev1 => ?_)
  refine qr_lconst 7 rfl rfl ?_
  refine qy_vl 1 rfl ?_
  refine qr_land 8 rfl rfl ?_
  refine qy_canlE (fun v2 hv2 hev2 => ?_)
  refine qr_lconst 9 rfl rfl ?_
  refine qy_vl 1 rfl ?_
  refine qr_lc_ne 17 13 rfl rfl rfl rfl (by omega) (by omega) (fun h3 => ?_) (fun h3 => ?_)
  · skip
    refine qr_iconst 18 rfl rfl ?_
    refine qr_retZ rfl rfl (by omega) (by decide) (by decide) ?_
    exact ⟨rfl, 0, rfl, by omega, (by have hq0 := qbit_inS (t := (σ 86 10)) (i := x1) (by omega) (by omega) hev1 hev2; omega)⟩
  · skip
    refine qr_iconst 14 rfl rfl ?_
    refine qr_goto 18 rfl rfl ?_
    refine qr_retZ rfl rfl (by omega) (by decide) (by decide) ?_
    exact ⟨rfl, 1, rfl, by omega, (by have hq0 := qbit_inS (t := (σ 86 10)) (i := x1) (by omega) (by omega) hev1 hev2; omega)⟩

set_option maxHeartbeats 4000000 in
set_option maxRecDepth 20000 in
/-- OneRoofModel.gives -/
theorem sf_228_86x {L : Nat} {xs : Nat → Int} {vb : Bool} {d : Nat} {σ α : Nat → Nat → Int} {κ : Nat → Option Nat} {ρ : Nat} {x1 : Int} {x2 : Int} {x3 : Int} {x4 : Int} {x5 : Int} {x6 : Int} {g : (Nat → Int) → Int} (hI : qI σ α κ ρ) (r1 : 0 ≤ x1 ∧ x1 ≤ 1) (r2 : 0 ≤ x2 ∧ x2 ≤ 31) (r3 : 0 ≤ x3 ∧ x3 ≤ 31) (r4 : (-1) ≤ x4 ∧ x4 ≤ 31) (r5 : (-9223372036854775808) ≤ x5 ∧ x5 ≤ 9223372036854775807) (r6 : (-2147483648) ≤ x6 ∧ x6 ≤ 2147483647) (p0 : ¬ x2 = x3) (p1 : qPG σ α x1 g) (p2 : qZf σ α) (p3 : qZk σ α) (p4 : x2 < σ 86 6 ∧ x3 < σ 86 6 ∧ x4 < σ 86 6) : qm_T (qe L xs vb) (d + 46) 228 [.ref 86, .int (qz x1), .int (qz x2), .int (qz x3), .int (qz x4), .long (ql x5), .int (qz x6)] (qw σ α κ ρ) (fun r w' => ∃ σ' α', w' = qw σ' α' κ ρ ∧ qI σ' α' κ ρ ∧ qFr [(86, 15), (86, 23), (86, 30), (86, 35), (86, 36), (86, 37), (86, 38), (86, 39)] [96, 109] σ α σ' α' ∧ ∃ v : Int, r = some (.int (qz v)) ∧ ((-2147483648) ≤ v ∧ v ≤ 2147483647) ∧ v = g (qNVr σ α (σ 86 29) (σ 86 10) x2 x3 x4 x5 x6)) := by
  refine qr_start (d := d + 45) qv_e228 (Nat.le_of_ble_eq_true rfl) ?_
  show qr_W (qe L xs vb) (d + 45) qx_e228 _ (0, [(0, .ref 86), (1, .int (qz x1)), (2, .int (qz x2)), (3, .int (qz x3)), (4, .int (qz x4)), (5, .long (ql x5)), (7, .int (qz x6))], [], _, 0, 0)
  have hF0 := qFr_rf [(86, 15), (86, 23), (86, 30), (86, 35), (86, 36), (86, 37), (86, 38), (86, 39)] [96, 109] σ α
  have hz86_6 : 0 ≤ σ 86 6 ∧ σ 86 6 ≤ 32 := hI.1 86 6
  have hz86_10 : (-9223372036854775808) ≤ σ 86 10 ∧ σ 86 10 ≤ 9223372036854775807 := hI.1 86 10
  have hz86_11 : 0 ≤ σ 86 11 ∧ σ 86 11 ≤ 61 := hI.1 86 11
  have hz86_16 : 0 ≤ σ 86 16 ∧ σ 86 16 ≤ 40 := hI.1 86 16
  have hz86_22 : (-9223372036854775808) ≤ σ 86 22 ∧ σ 86 22 ≤ 9223372036854775807 := hI.1 86 22
  have hz86_24 : 0 ≤ σ 86 24 ∧ σ 86 24 ≤ 60 := hI.1 86 24
  have hz86_29 : (-9223372036854775808) ≤ σ 86 29 ∧ σ 86 29 ≤ 9223372036854775807 := hI.1 86 29
  have hz86_41 : 0 ≤ σ 86 41 ∧ σ 86 41 ≤ 1 := hI.1 86 41
  refine qr_aload_n 1 rfl rfl rfl ?_
  refine qr_iload_n 2 rfl rfl rfl ?_
  refine qr_iload_n 3 rfl rfl rfl ?_
  refine qr_iload 5 rfl rfl rfl ?_
  have hs1 : 0 ≤ σ 86 6 ∧ σ 86 6 ≤ 32 := hI.1 86 6
  refine qr_callN 8 rfl rfl rfl (sf_195_86x (d := d + 40) hI (by omega) (by omega) (by omega) (qZf_fr hF0 (by decide) (by decide) p2) (by omega)) ?_
  have hs4 : 0 ≤ σ 86 11 ∧ σ 86 11 ≤ 61 := hI.1 86 11
  have hs5 : 0 ≤ σ 86 16 ∧ σ 86 16 ≤ 40 := hI.1 86 16
  have hs6 : (-9223372036854775808) ≤ σ 86 22 ∧ σ 86 22 ≤ 9223372036854775807 := hI.1 86 22
  rintro _ _ ⟨σ7, α8, rfl, hI9, hG10, v2, rfl, hv2, hp3⟩
  have hF11 : qFr [(86, 15), (86, 23), (86, 30), (86, 35), (86, 36), (86, 37), (86, 38), (86, 39)] [96, 109] σ α σ7 α8 := qFr_t hF0 hG10 (by decide) (by decide)
  have hs12 : (-2147483648) ≤ σ7 86 23 ∧ σ7 86 23 ≤ 2147483647 := hI9.1 86 23
  show qr_W (qe L xs vb) (d + 45) qx_e228 _ (8, _, [.int (qz v2)], qw σ7 α8 κ ρ, 0, 0)
  refine qr_istore _ 10 rfl (by decide) rfl rfl ?_
  refine qr_aload_n 11 rfl rfl rfl ?_
  refine qr_get 14 rfl rfl rfl (by decide) rfl ?_
  refine qr_iconst 15 rfl rfl ?_
  refine qr_iload 17 rfl rfl rfl ?_
  refine qr_bipush 19 rfl (by decide) rfl ?_
  have hJ24 : ∀ (ls : qm_L) (u21 : Int), qm_get ls 0 = some (.ref 86) → qm_get ls 1 = some (.int (qz x1)) → qm_get ls 2 = some (.int (qz x2)) → qm_get ls 3 = some (.int (qz x3)) → qm_get ls 4 = some (.int (qz x4)) → qm_get ls 5 = some (.long (ql x5)) → qm_get ls 7 = some (.int (qz x6)) → qm_get ls 8 = some (.int (qz v2)) → (0 ≤ u21 ∧ u21 ≤ 1) → u21 = qnF1 (qnF (qd9 (α 94) (α 95) (σ 86 11)) (α 97) (α 98) (α 100) (α 99) (qsh (α 87) 32) (σ 86 22) (σ 86 16) x2 x3 x6) → qr_W (qe L xs vb) (d + 45) qx_e228 (fun r w' => ∃ σ' α', w' = qw σ' α' κ ρ ∧ qI σ' α' κ ρ ∧ qFr [(86, 15), (86, 23), (86, 30), (86, 35), (86, 36), (86, 37), (86, 38), (86, 39)] [96, 109] σ α σ' α' ∧ ∃ v : Int, r = some (.int (qz v)) ∧ ((-2147483648) ≤ v ∧ v ≤ 2147483647) ∧ v = g (qNVr σ α (σ 86 29) (σ 86 10) x2 x3 x4 x5 x6)) (27, ls, [.int (qz u21), .int (qz 0), .ref 109], qw σ7 α8 κ ρ, 0, 0) := by
    intro ls u21 g13 g14 g15 g16 g17 g18 g19 g20 hf22 hx23
    refine qr_iastore 28 rfl (by decide) rfl (by omega) (by decide) rfl ?_
    refine qy_wA (qw_r α8 109 (qzu (α8 109) (0 : Int).toNat u21)) rfl (fun α25 e26 => ?_)
    have hI27 : qI σ7 α25 κ ρ := by rw [e26]; exact qI_r hI9 109 _ rfl (show (-2147483648) ≤ u21 ∧ u21 ≤ 2147483647 by omega)
    have hF28 : qFr [(86, 15), (86, 23), (86, 30), (86, 35), (86, 36), (86, 37), (86, 38), (86, 39)] [96, 109] σ α σ7 α25 := by rw [e26]; exact qFr_r hF11 109 _ (by decide)
    refine qr_aload_n 29 rfl g13 rfl ?_
    refine qr_get 32 rfl rfl rfl (by decide) rfl ?_
    refine qr_iconst 33 rfl rfl ?_
    refine qr_iload 35 rfl g20 rfl ?_
    refine qr_bipush 37 rfl (by decide) rfl ?_
    have hJ39 : ∀ (ls : qm_L) (u36 : Int), qm_get ls 0 = some (.ref 86) → qm_get ls 1 = some (.int (qz x1)) → qm_get ls 2 = some (.int (qz x2)) → qm_get ls 3 = some (.int (qz x3)) → qm_get ls 4 = some (.int (qz x4)) → qm_get ls 5 = some (.long (ql x5)) → qm_get ls 7 = some (.int (qz x6)) → (0 ≤ u36 ∧ u36 ≤ 98) → u36 = qnF (qd9 (α 94) (α 95) (σ 86 11)) (α 97) (α 98) (α 100) (α 99) (qsh (α 87) 32) (σ 86 22) (σ 86 16) x2 x3 x6 / 64 → qr_W (qe L xs vb) (d + 45) qx_e228 (fun r w' => ∃ σ' α', w' = qw σ' α' κ ρ ∧ qI σ' α' κ ρ ∧ qFr [(86, 15), (86, 23), (86, 30), (86, 35), (86, 36), (86, 37), (86, 38), (86, 39)] [96, 109] σ α σ' α' ∧ ∃ v : Int, r = some (.int (qz v)) ∧ ((-2147483648) ≤ v ∧ v ≤ 2147483647) ∧ v = g (qNVr σ α (σ 86 29) (σ 86 10) x2 x3 x4 x5 x6)) (47, ls, [.int (qz u36), .int (qz 1), .ref 109], qw σ7 α25 κ ρ, 0, 0) := by
      intro ls u36 g29 g30 g31 g32 g33 g34 g35 hf37 hx38
      refine qr_iastore 48 rfl (by decide) rfl (by omega) (by decide) rfl ?_
      refine qy_wA (qw_r α25 109 (qzu (α25 109) (1 : Int).toNat u36)) rfl (fun α40 e41 => ?_)
      have hI42 : qI σ7 α40 κ ρ := by rw [e41]; exact qI_r hI27 109 _ rfl (show (-2147483648) ≤ u36 ∧ u36 ≤ 2147483647 by omega)
      have hF43 : qFr [(86, 15), (86, 23), (86, 30), (86, 35), (86, 36), (86, 37), (86, 38), (86, 39)] [96, 109] σ α σ7 α40 := by rw [e41]; exact qFr_r hF28 109 _ (by decide)
      refine qr_aload_n 49 rfl g29 rfl ?_
      refine qr_get 52 rfl rfl rfl (by decide) rfl ?_
      refine qr_iconst 53 rfl rfl ?_
      refine qr_aload_n 54 rfl g29 rfl ?_
      refine qr_iload_n 55 rfl g31 rfl ?_
      refine qr_iload_n 56 rfl g32 rfl ?_
      refine qr_iload 58 rfl g35 rfl ?_
      have hs44 : 0 ≤ σ7 86 6 ∧ σ7 86 6 ≤ 32 := hI42.1 86 6
      have hs45 : σ7 86 6 = (σ 86 6) := (hG10.1 86 6 (by decide)).trans rfl
      refine qr_callN 61 rfl rfl rfl (sf_209_86x (d := d + 41) hI42 (by omega) (by omega) (by omega) (by omega) (qZk_fr hF43 (by decide) (by decide) p3) (by omega)) ?_
      have hs48 : 0 ≤ σ7 86 24 ∧ σ7 86 24 ≤ 60 := hI42.1 86 24
      have hs49 : σ7 86 24 = (σ 86 24) := (hG10.1 86 24 (by decide)).trans rfl
      have hs50 : (-9223372036854775808) ≤ σ7 86 29 ∧ σ7 86 29 ≤ 9223372036854775807 := hI42.1 86 29
      have hs51 : σ7 86 29 = (σ 86 29) := (hG10.1 86 29 (by decide)).trans rfl
      rintro _ _ ⟨σ52, rfl, hI53, hG54, v46, rfl, hv46, hp47⟩
      have hF55 : qFr [(86, 15), (86, 23), (86, 30), (86, 35), (86, 36), (86, 37), (86, 38), (86, 39)] [96, 109] σ α σ52 α40 := qFr_t hF43 hG54 (by decide) (by decide)
      have hs56 : (-2147483648) ≤ σ52 86 30 ∧ σ52 86 30 ≤ 2147483647 := hI53.1 86 30
      rw [hF43.2 87 (by decide), hF43.2 91 (by decide), hF43.2 102 (by decide), hF43.2 103 (by decide), hF43.2 104 (by decide), hF43.2 105 (by decide), hF43.1 86 24 (by decide), hF43.1 86 29 (by decide)] at hp47
      show qr_W (qe L xs vb) (d + 45) qx_e228 _ (61, _, [.int (qz v46), .int (qz 2), .ref 109], qw σ52 α40 κ ρ, 0, 0)
      refine qr_iastore 62 rfl (by decide) rfl (by omega) (by decide) rfl ?_
      refine qy_wA (qw_r α40 109 (qzu (α40 109) (2 : Int).toNat v46)) rfl (fun α57 e58 => ?_)
      have hI59 : qI σ52 α57 κ ρ := by rw [e58]; exact qI_r hI53 109 _ rfl (show (-2147483648) ≤ v46 ∧ v46 ≤ 2147483647 by omega)
      have hF60 : qFr [(86, 15), (86, 23), (86, 30), (86, 35), (86, 36), (86, 37), (86, 38), (86, 39)] [96, 109] σ α σ52 α57 := by rw [e58]; exact qFr_r hF55 109 _ (by decide)
      refine qr_aload_n 63 rfl g29 rfl ?_
      refine qr_get 66 rfl rfl rfl (by decide) rfl ?_
      refine qr_iconst 67 rfl rfl ?_
      refine qr_aload_n 68 rfl g29 rfl ?_
      refine qr_get 71 rfl rfl rfl (by decide) rfl ?_
      refine qr_iconst 72 rfl rfl ?_
      refine qr_iload_n 73 rfl g31 rfl ?_
      refine qr_iadd 74 rfl rfl ?_
      refine qr_iaload 75 rfl rfl (by omega) (by decide) rfl ?_
      refine qr_topI (fun v61 hv61 => ?_)
      have hs62 : (-2147483648) ≤ v61 ∧ v61 ≤ 2147483647 := by rw [hv61]; exact hI59.2.1 87 _ (show _ < 252 by omega)
      have hrv61 : v61 = (α 87) ((0 + x2) : Int).toNat := hv61.trans (congrFun ((congrFun e58 87).trans ((qw_r_ne (by decide)).trans ((congrFun e41 87).trans ((qw_r_ne (by decide)).trans ((congrFun e26 87).trans ((qw_r_ne (by decide)).trans ((hG10.2 87 (by decide)).trans rfl))))))) _)
      refine qr_iastore 76 rfl (by decide) rfl (by omega) (by decide) rfl ?_
      refine qy_wA (qw_r α57 109 (qzu (α57 109) (3 : Int).toNat v61)) rfl (fun α63 e64 => ?_)
      have hI65 : qI σ52 α63 κ ρ := by rw [e64]; exact qI_r hI59 109 _ rfl (show (-2147483648) ≤ v61 ∧ v61 ≤ 2147483647 by omega)
      have hF66 : qFr [(86, 15), (86, 23), (86, 30), (86, 35), (86, 36), (86, 37), (86, 38), (86, 39)] [96, 109] σ α σ52 α63 := by rw [e64]; exact qFr_r hF60 109 _ (by decide)
      refine qr_aload_n 77 rfl g29 rfl ?_
      refine qr_get 80 rfl rfl rfl (by decide) rfl ?_
      refine qr_iconst 81 rfl rfl ?_
      refine qr_aload_n 82 rfl g29 rfl ?_
      refine qr_get 85 rfl rfl rfl (by decide) rfl ?_
      refine qr_iconst 86 rfl rfl ?_
      refine qr_iload_n 87 rfl g32 rfl ?_
      refine qr_iadd 88 rfl rfl ?_
      refine qr_iaload 89 rfl rfl (by omega) (by decide) rfl ?_
      refine qr_topI (fun v67 hv67 => ?_)
      have hs68 : (-2147483648) ≤ v67 ∧ v67 ≤ 2147483647 := by rw [hv67]; exact hI65.2.1 87 _ (show _ < 252 by omega)
      have hrv67 : v67 = (α 87) ((0 + x3) : Int).toNat := hv67.trans (congrFun ((congrFun e64 87).trans ((qw_r_ne (by decide)).trans ((congrFun e58 87).trans ((qw_r_ne (by decide)).trans ((congrFun e41 87).trans ((qw_r_ne (by decide)).trans ((congrFun e26 87).trans ((qw_r_ne (by decide)).trans ((hG10.2 87 (by decide)).trans rfl))))))))) _)
      refine qr_iastore 90 rfl (by decide) rfl (by omega) (by decide) rfl ?_
      refine qy_wA (qw_r α63 109 (qzu (α63 109) (4 : Int).toNat v67)) rfl (fun α69 e70 => ?_)
      have hI71 : qI σ52 α69 κ ρ := by rw [e70]; exact qI_r hI65 109 _ rfl (show (-2147483648) ≤ v67 ∧ v67 ≤ 2147483647 by omega)
      have hF72 : qFr [(86, 15), (86, 23), (86, 30), (86, 35), (86, 36), (86, 37), (86, 38), (86, 39)] [96, 109] σ α σ52 α69 := by rw [e70]; exact qFr_r hF66 109 _ (by decide)
      refine qr_aload_n 91 rfl g29 rfl ?_
      refine qr_get 94 rfl rfl rfl (by decide) rfl ?_
      refine qr_iconst 95 rfl rfl ?_
      refine qr_aload_n 96 rfl g29 rfl ?_
      refine qr_iload_n 97 rfl g32 rfl ?_
      refine qr_iload_n 98 rfl g31 rfl ?_
      have hs73 : 0 ≤ σ52 86 6 ∧ σ52 86 6 ≤ 32 := hI71.1 86 6
      have hs74 : σ52 86 6 = (σ 86 6) := (hG54.1 86 6 (by decide)).trans ((hG10.1 86 6 (by decide)).trans rfl)
      refine qr_callN 101 rfl rfl rfl (sf_207_86x (d := d + 44) hI71 (by omega) (by omega) (by omega)) ?_
      rintro _ _ ⟨rfl, v75, rfl, hv75, hp76⟩
      rw [hF72.2 91 (by decide)] at hp76
      show qr_W (qe L xs vb) (d + 45) qx_e228 _ (101, _, [.int (qz v75), .int (qz 5), .ref 109], qw σ52 α69 κ ρ, 0, 0)
      have hJ86 : ∀ (ls : qm_L) (u83 : Int), qm_get ls 0 = some (.ref 86) → qm_get ls 1 = some (.int (qz x1)) → qm_get ls 2 = some (.int (qz x2)) → qm_get ls 3 = some (.int (qz x3)) → qm_get ls 4 = some (.int (qz x4)) → qm_get ls 5 = some (.long (ql x5)) → (0 ≤ u83 ∧ u83 ≤ 1) → u83 = qll (α 91) (α 91 (x2 : Int).toNat) x3 → qr_W (qe L xs vb) (d + 45) qx_e228 (fun r w' => ∃ σ' α', w' = qw σ' α' κ ρ ∧ qI σ' α' κ ρ ∧ qFr [(86, 15), (86, 23), (86, 30), (86, 35), (86, 36), (86, 37), (86, 38), (86, 39)] [96, 109] σ α σ' α' ∧ ∃ v : Int, r = some (.int (qz v)) ∧ ((-2147483648) ≤ v ∧ v ≤ 2147483647) ∧ v = g (qNVr σ α (σ 86 29) (σ 86 10) x2 x3 x4 x5 x6)) (109, ls, [.int (qz u83), .int (qz 5), .ref 109], qw σ52 α69 κ ρ, 0, 0) := by
        intro ls u83 g77 g78 g79 g80 g81 g82 hf84 hx85
        refine qr_iastore 110 rfl (by decide) rfl (by omega) (by decide) rfl ?_
        refine qy_wA (qw_r α69 109 (qzu (α69 109) (5 : Int).toNat u83)) rfl (fun α87 e88 => ?_)
        have hI89 : qI σ52 α87 κ ρ := by rw [e88]; exact qI_r hI71 109 _ rfl (show (-2147483648) ≤ u83 ∧ u83 ≤ 2147483647 by omega)
        have hF90 : qFr [(86, 15), (86, 23), (86, 30), (86, 35), (86, 36), (86, 37), (86, 38), (86, 39)] [96, 109] σ α σ52 α87 := by rw [e88]; exact qFr_r hF72 109 _ (by decide)
        refine qr_aload_n 111 rfl g77 rfl ?_
        refine qr_get 114 rfl rfl rfl (by decide) rfl ?_
        refine qr_bipush 116 rfl (by decide) rfl ?_
        refine qr_aload_n 117 rfl g77 rfl ?_
        refine qr_iload_n 118 rfl g79 rfl ?_
        refine qr_iload_n 119 rfl g80 rfl ?_
        have hs91 : 0 ≤ σ52 86 6 ∧ σ52 86 6 ≤ 32 := hI89.1 86 6
        have hs92 : σ52 86 6 = (σ 86 6) := (hG54.1 86 6 (by decide)).trans ((hG10.1 86 6 (by decide)).trans rfl)
        refine qr_callN 122 rfl rfl rfl (sf_187_86x (d := d + 42) hI89 (by omega) (by omega) (by omega)) ?_
        rintro _ _ ⟨σ95, α96, rfl, hI97, hG98, v93, rfl, hv93, hx94⟩
        have hF99 : qFr [(86, 15), (86, 23), (86, 30), (86, 35), (86, 36), (86, 37), (86, 38), (86, 39)] [96, 109] σ α σ95 α96 := qFr_t hF90 hG98 (by decide) (by decide)
        rw [hF90.2 94 (by decide), hF90.2 95 (by decide), hF90.1 86 11 (by decide)] at hx94
        show qr_W (qe L xs vb) (d + 45) qx_e228 _ (122, _, [.int (qz v93), .int (qz 6), .ref 109], qw σ95 α96 κ ρ, 0, 0)
        refine qr_bipush 124 rfl (by decide) rfl ?_
        have hJ135 : ∀ (ls : qm_L) (u114 : Int) (σ115 α116 : Nat → Nat → Int), qm_get ls 0 = some (.ref 86) → qm_get ls 1 = some (.int (qz x1)) → qm_get ls 2 = some (.int (qz x2)) → qm_get ls 4 = some (.int (qz x4)) → qm_get ls 5 = some (.long (ql x5)) → (0 ≤ u114 ∧ u114 ≤ 99) → qI σ115 α116 κ ρ → qFr [(86, 15), (86, 23), (86, 30), (86, 35), (86, 36), (86, 37), (86, 38), (86, 39)] [96, 109] σ α σ115 α116 → σ115 86 6 = (σ 86 6) → σ115 86 10 = (σ 86 10) → σ115 86 11 = (σ 86 11) → σ115 86 16 = (σ 86 16) → σ115 86 22 = (σ 86 22) → σ115 86 23 = (σ7 86 23) → σ115 86 24 = (σ 86 24) → σ115 86 29 = (σ 86 29) → σ115 86 30 = (σ52 86 30) → σ115 86 41 = (σ 86 41) → α116 87 = (α 87) → α116 91 = (α 91) → α116 108 = (α 108) → α116 109 = (qzu (qzu (qzu (qzu (qzu (qzu (α 109) (0 : Int).toNat u21) (1 : Int).toNat u36) (2 : Int).toNat v46) (3 : Int).toNat v61) (4 : Int).toNat v67) (5 : Int).toNat u83) → u114 = qm9 (qd9 (α 94) (α 95) (σ 86 11) x2 x3) → qr_W (qe L xs vb) (d + 45) qx_e228 (fun r w' => ∃ σ' α', w' = qw σ' α' κ ρ ∧ qI σ' α' κ ρ ∧ qFr [(86, 15), (86, 23), (86, 30), (86, 35), (86, 36), (86, 37), (86, 38), (86, 39)] [96, 109] σ α σ' α' ∧ ∃ v : Int, r = some (.int (qz v)) ∧ ((-2147483648) ≤ v ∧ v ≤ 2147483647) ∧ v = g (qNVr σ α (σ 86 29) (σ 86 10) x2 x3 x4 x5 x6)) (138, ls, [.int (qz u114), .int (qz 6), .ref 109], qw σ115 α116 κ ρ, 0, 0) := by
          intro ls u114 σ115 α116 g109 g110 g111 g112 g113 hf133 hI117 hF118 hk119 hk120 hk121 hk122 hk123 hk124 hk125 hk126 hk127 hk128 hk129 hk130 hk131 hk132 hx134
          refine qr_iastore 139 rfl (by decide) rfl (by omega) (by decide) rfl ?_
          refine qy_wA (qw_r α116 109 (qzu (α116 109) (6 : Int).toNat u114)) rfl (fun α136 e137 => ?_)
          have hI138 : qI σ115 α136 κ ρ := by rw [e137]; exact qI_r hI117 109 _ rfl (show (-2147483648) ≤ u114 ∧ u114 ≤ 2147483647 by omega)
          have hF139 : qFr [(86, 15), (86, 23), (86, 30), (86, 35), (86, 36), (86, 37), (86, 38), (86, 39)] [96, 109] σ α σ115 α136 := by rw [e137]; exact qFr_r hF118 109 _ (by decide)
          refine qr_aload_n 140 rfl g109 rfl ?_
          refine qr_get 143 rfl rfl rfl (by decide) rfl ?_
          refine qr_bipush 145 rfl (by decide) rfl ?_
          refine qr_iconst 146 rfl rfl ?_
          refine qr_iastore 147 rfl (by decide) rfl (by omega) (by decide) rfl ?_
          refine qy_wA (qw_r α136 109 (qzu (α136 109) (7 : Int).toNat 0)) rfl (fun α140 e141 => ?_)
          have hI142 : qI σ115 α140 κ ρ := by rw [e141]; exact qI_r hI138 109 _ rfl (show (-2147483648) ≤ 0 ∧ 0 ≤ 2147483647 by omega)
          have hF143 : qFr [(86, 15), (86, 23), (86, 30), (86, 35), (86, 36), (86, 37), (86, 38), (86, 39)] [96, 109] σ α σ115 α140 := by rw [e141]; exact qFr_r hF139 109 _ (by decide)
          refine qr_iconst 148 rfl rfl ?_
          refine qr_istore _ 150 rfl (by decide) rfl rfl ?_
          have hL3626 : ∀ (n : Nat) (ls : qm_L) (u3615 : Int) (α3617 : Nat → Nat → Int), 32 - u3615 < (n : Int) → qm_get ls 0 = some (.ref 86) → qm_get ls 1 = some (.int (qz x1)) → qm_get ls 2 = some (.int (qz x2)) → qm_get ls 4 = some (.int (qz x4)) → qm_get ls 5 = some (.long (ql x5)) → qm_get ls 9 = some (.int (qz u3615)) → (0 ≤ u3615 ∧ u3615 ≤ 32) → qI σ115 α3617 κ ρ → qFr [(86, 15), (86, 23), (86, 30), (86, 35), (86, 36), (86, 37), (86, 38), (86, 39)] [96, 109] σ α σ115 α3617 → α3617 87 = (α 87) → α3617 91 = (α 91) → α3617 108 = (α 108) → α3617 109 = (qzu (α140 109) (7 : Int).toNat (qsm (qshD (α 91) x2 x5 (σ 86 10) (σ 86 41)) (u3615 : Int).toNat)) → u3615 ≤ σ 86 6 → qr_W (qe L xs vb) (d + 45) qx_e228 (fun r w' => ∃ σ' α', w' = qw σ' α' κ ρ ∧ qI σ' α' κ ρ ∧ qFr [(86, 15), (86, 23), (86, 30), (86, 35), (86, 36), (86, 37), (86, 38), (86, 39)] [96, 109] σ α σ' α' ∧ ∃ v : Int, r = some (.int (qz v)) ∧ ((-2147483648) ≤ v ∧ v ≤ 2147483647) ∧ v = g (qNVr σ α (σ 86 29) (σ 86 10) x2 x3 x4 x5 x6)) (150, ls, [], qw σ115 α3617 κ ρ, 0, 0) := by
            intro n
            induction n with
            | zero => intro ls u3615 α3617 hm g3609 g3610 g3611 g3612 g3613 g3614 hf3623 hI3618 hF3619 hk3620 hk3621 hk3622 hx3624 hx3625; exact False.elim (by omega)
            | succ n ih3627 =>
              intro ls u3615 α3617 hm g3609 g3610 g3611 g3612 g3613 g3614 hf3623 hI3618 hF3619 hk3620 hk3621 hk3622 hx3624 hx3625
              refine qr_iload 152 rfl g3614 rfl ?_
              refine qr_aload_n 153 rfl g3609 rfl ?_
              refine qr_get 156 rfl rfl rfl (by decide) rfl ?_
              refine qy_v (σ 86 6) ((hk119).trans rfl) ?_
              refine qr_icmp_ge 251 159 rfl rfl rfl (by omega) (by omega) (fun h3695 => ?_) (fun h3695 => ?_)
              · skip
                refine qr_aload_n 252 rfl g3609 rfl ?_
                refine qr_get 255 rfl rfl rfl (by decide) rfl ?_
                refine qr_bipush 257 rfl (by decide) rfl ?_
                refine qr_iload 259 rfl g3612 rfl ?_
                have hJ3737 : ∀ (ls : qm_L) (u3716 : Int) (σ3717 α3718 : Nat → Nat → Int), qm_get ls 0 = some (.ref 86) → qm_get ls 1 = some (.int (qz x1)) → (0 ≤ u3716 ∧ u3716 ≤ 99) → qI σ3717 α3718 κ ρ → qFr [(86, 15), (86, 23), (86, 30), (86, 35), (86, 36), (86, 37), (86, 38), (86, 39)] [96, 109] σ α σ3717 α3718 → σ3717 86 6 = (σ 86 6) → σ3717 86 10 = (σ 86 10) → σ3717 86 11 = (σ 86 11) → σ3717 86 16 = (σ 86 16) → σ3717 86 22 = (σ 86 22) → σ3717 86 23 = (σ7 86 23) → σ3717 86 24 = (σ 86 24) → σ3717 86 29 = (σ 86 29) → σ3717 86 30 = (σ52 86 30) → σ3717 86 41 = (σ 86 41) → α3718 87 = (α 87) → α3718 91 = (α 91) → α3718 108 = (α 108) → α3718 109 = (qzu (α140 109) (7 : Int).toNat (qsm (qshD (α 91) x2 x5 (σ 86 10) (σ 86 41)) (u3615 : Int).toNat)) → u3716 = (if x4 = -1 then 0 else qm9 (qd9 (α 94) (α 95) (σ 86 11) x2 x4)) → qr_W (qe L xs vb) (d + 45) qx_e228 (fun r w' => ∃ σ' α', w' = qw σ' α' κ ρ ∧ qI σ' α' κ ρ ∧ qFr [(86, 15), (86, 23), (86, 30), (86, 35), (86, 36), (86, 37), (86, 38), (86, 39)] [96, 109] σ α σ' α' ∧ ∃ v : Int, r = some (.int (qz v)) ∧ ((-2147483648) ≤ v ∧ v ≤ 2147483647) ∧ v = g (qNVr σ α (σ 86 29) (σ 86 10) x2 x3 x4 x5 x6)) (290, ls, [.int (qz u3716), .int (qz 8), .ref 109], qw σ3717 α3718 κ ρ, 0, 0) := by
                  intro ls u3716 σ3717 α3718 g3714 g3715 hf3735 hI3719 hF3720 hk3721 hk3722 hk3723 hk3724 hk3725 hk3726 hk3727 hk3728 hk3729 hk3730 hk3731 hk3732 hk3733 hk3734 hx3736
                  refine qr_iastore 291 rfl (by decide) rfl (by omega) (by decide) rfl ?_
                  refine qy_wA (qw_r α3718 109 (qzu (α3718 109) (8 : Int).toNat u3716)) rfl (fun α3738 e3739 => ?_)
                  have hI3740 : qI σ3717 α3738 κ ρ := by rw [e3739]; exact qI_r hI3719 109 _ rfl (show (-2147483648) ≤ u3716 ∧ u3716 ≤ 2147483647 by omega)
                  have hF3741 : qFr [(86, 15), (86, 23), (86, 30), (86, 35), (86, 36), (86, 37), (86, 38), (86, 39)] [96, 109] σ α σ3717 α3738 := by rw [e3739]; exact qFr_r hF3720 109 _ (by decide)
                  refine qr_aload_n 292 rfl g3714 rfl ?_
                  refine qr_get 295 rfl rfl rfl (by decide) rfl ?_
                  refine qr_iload_n 296 rfl g3715 rfl ?_
                  refine qr_iaload 297 rfl rfl (by omega) (by decide) rfl ?_
                  refine qr_topI (fun v3742 hv3742 => ?_)
                  have hs3743 : (-1) ≤ v3742 ∧ v3742 ≤ 120 := by rw [hv3742]; exact hI3740.2.1 108 _ (show _ < 2 by omega)
                  have hrv3742 : v3742 = (α 108) (x1 : Int).toNat := hv3742.trans (congrFun ((congrFun e3739 108).trans ((qw_r_ne (by decide)).trans hk3733)) _)
                  refine qr_if_lt 315 300 rfl rfl rfl (by omega) (fun h3744 => ?_) (fun h3744 => ?_)
                  · skip
                    refine qr_iload_n 316 rfl g3715 rfl ?_
                    have hJ3756 : ∀ (ls : qm_L) (u3753 : Int), (0 ≤ u3753 ∧ u3753 ≤ 1) → u3753 = qdf x1 (α3738 109) → qr_W (qe L xs vb) (d + 45) qx_e228 (fun r w' => ∃ σ' α', w' = qw σ' α' κ ρ ∧ qI σ' α' κ ρ ∧ qFr [(86, 15), (86, 23), (86, 30), (86, 35), (86, 36), (86, 37), (86, 38), (86, 39)] [96, 109] σ α σ' α' ∧ ∃ v : Int, r = some (.int (qz v)) ∧ ((-2147483648) ≤ v ∧ v ≤ 2147483647) ∧ v = g (qNVr σ α (σ 86 29) (σ 86 10) x2 x3 x4 x5 x6)) (372, ls, [.int (qz u3753)], qw σ3717 α3738 κ ρ, 0, 0) := by
                      intro ls u3753 hf3754 hx3755
                      refine qr_istore _ 374 rfl (by decide) rfl rfl ?_
                      refine qr_iload 376 rfl (qm_ge _ _ _) rfl ?_
                      refine qr_if_eq 383 379 rfl rfl rfl (by omega) (fun h3757 => ?_) (fun h3757 => ?_)
                      · skip
                        refine qr_iconst 384 rfl rfl ?_
                        refine qr_retI rfl rfl (by decide) (by decide) ?_
                        exact ⟨_, _, rfl, hI3740, hF3741, 0, rfl, by omega, (by have hp := (p1.1 (α3738 109)).2 (by omega); have hd := hx3755; have hv : 0 = g (α3738 109) := (by rw [← hp]; omega); exact hv.trans (qgo_v p1.2 ((congrFun ((congrFun e3739 109).trans (qw_r_eq.trans (congrArg (fun f => qzu f (8 : Int).toNat u3716) hk3734))) _).trans ((congrFun ((congrFun e141 109).trans (qw_r_eq.trans (congrArg (fun f => qzu f (7 : Int).toNat 0) ((congrFun e137 109).trans (qw_r_eq.trans (congrArg (fun f => qzu f (6 : Int).toNat u114) hk132)))))) _).trans hx23)) ((congrFun ((congrFun e3739 109).trans (qw_r_eq.trans (congrArg (fun f => qzu f (8 : Int).toNat u3716) hk3734))) _).trans ((congrFun ((congrFun e141 109).trans (qw_r_eq.trans (congrArg (fun f => qzu f (7 : Int).toNat 0) ((congrFun e137 109).trans (qw_r_eq.trans (congrArg (fun f => qzu f (6 : Int).toNat u114) hk132)))))) _).trans hx38)) ((congrFun ((congrFun e3739 109).trans (qw_r_eq.trans (congrArg (fun f => qzu f (8 : Int).toNat u3716) hk3734))) _).trans ((congrFun ((congrFun e141 109).trans (qw_r_eq.trans (congrArg (fun f => qzu f (7 : Int).toNat 0) ((congrFun e137 109).trans (qw_r_eq.trans (congrArg (fun f => qzu f (6 : Int).toNat u114) hk132)))))) _).trans hp47.1)) ((congrFun ((congrFun e3739 109).trans (qw_r_eq.trans (congrArg (fun f => qzu f (8 : Int).toNat u3716) hk3734))) _).trans ((congrFun ((congrFun e141 109).trans (qw_r_eq.trans (congrArg (fun f => qzu f (7 : Int).toNat 0) ((congrFun e137 109).trans (qw_r_eq.trans (congrArg (fun f => qzu f (6 : Int).toNat u114) hk132)))))) _).trans (hrv61.trans (congrArg (α 87) (show (0 + x2 : Int).toNat = (x2 : Int).toNat by omega))))) ((congrFun ((congrFun e3739 109).trans (qw_r_eq.trans (congrArg (fun f => qzu f (8 : Int).toNat u3716) hk3734))) _).trans ((congrFun ((congrFun e141 109).trans (qw_r_eq.trans (congrArg (fun f => qzu f (7 : Int).toNat 0) ((congrFun e137 109).trans (qw_r_eq.trans (congrArg (fun f => qzu f (6 : Int).toNat u114) hk132)))))) _).trans (hrv67.trans (congrArg (α 87) (show (0 + x3 : Int).toNat = (x3 : Int).toNat by omega))))) ((congrFun ((congrFun e3739 109).trans (qw_r_eq.trans (congrArg (fun f => qzu f (8 : Int).toNat u3716) hk3734))) _).trans ((congrFun ((congrFun e141 109).trans (qw_r_eq.trans (congrArg (fun f => qzu f (7 : Int).toNat 0) ((congrFun e137 109).trans (qw_r_eq.trans (congrArg (fun f => qzu f (6 : Int).toNat u114) hk132)))))) _).trans hx85)) ((congrFun ((congrFun e3739 109).trans (qw_r_eq.trans (congrArg (fun f => qzu f (8 : Int).toNat u3716) hk3734))) _).trans ((congrFun ((congrFun e141 109).trans (qw_r_eq.trans (congrArg (fun f => qzu f (7 : Int).toNat 0) ((congrFun e137 109).trans (qw_r_eq.trans (congrArg (fun f => qzu f (6 : Int).toNat u114) hk132)))))) _).trans hx134)) ((congrFun ((congrFun e3739 109).trans (qw_r_eq.trans (congrArg (fun f => qzu f (8 : Int).toNat u3716) hk3734))) _).trans (show qsm (qshD (α 91) x2 x5 (σ 86 10) (σ 86 41)) (u3615 : Int).toNat = qsm (qshD (α 91) x2 x5 (σ 86 10) (σ 86 41)) (σ 86 6 : Int).toNat by rw [show (u3615 : Int).toNat = (σ 86 6 : Int).toNat by omega])) ((congrFun ((congrFun e3739 109).trans (qw_r_eq.trans (congrArg (fun f => qzu f (8 : Int).toNat u3716) hk3734))) _).trans hx3736)))⟩
                      · skip
                        refine qr_iconst 380 rfl rfl ?_
                        refine qr_goto 384 rfl rfl ?_
                        refine qr_retI rfl rfl (by decide) (by decide) ?_
                        exact ⟨_, _, rfl, hI3740, hF3741, 1, rfl, by omega, (by have hp := (p1.1 (α3738 109)).2 (by omega); have hd := hx3755; have hv : 1 = g (α3738 109) := (by rw [← hp]; omega); exact hv.trans (qgo_v p1.2 ((congrFun ((congrFun e3739 109).trans (qw_r_eq.trans (congrArg (fun f => qzu f (8 : Int).toNat u3716) hk3734))) _).trans ((congrFun ((congrFun e141 109).trans (qw_r_eq.trans (congrArg (fun f => qzu f (7 : Int).toNat 0) ((congrFun e137 109).trans (qw_r_eq.trans (congrArg (fun f => qzu f (6 : Int).toNat u114) hk132)))))) _).trans hx23)) ((congrFun ((congrFun e3739 109).trans (qw_r_eq.trans (congrArg (fun f => qzu f (8 : Int).toNat u3716) hk3734))) _).trans ((congrFun ((congrFun e141 109).trans (qw_r_eq.trans (congrArg (fun f => qzu f (7 : Int).toNat 0) ((congrFun e137 109).trans (qw_r_eq.trans (congrArg (fun f => qzu f (6 : Int).toNat u114) hk132)))))) _).trans hx38)) ((congrFun ((congrFun e3739 109).trans (qw_r_eq.trans (congrArg (fun f => qzu f (8 : Int).toNat u3716) hk3734))) _).trans ((congrFun ((congrFun e141 109).trans (qw_r_eq.trans (congrArg (fun f => qzu f (7 : Int).toNat 0) ((congrFun e137 109).trans (qw_r_eq.trans (congrArg (fun f => qzu f (6 : Int).toNat u114) hk132)))))) _).trans hp47.1)) ((congrFun ((congrFun e3739 109).trans (qw_r_eq.trans (congrArg (fun f => qzu f (8 : Int).toNat u3716) hk3734))) _).trans ((congrFun ((congrFun e141 109).trans (qw_r_eq.trans (congrArg (fun f => qzu f (7 : Int).toNat 0) ((congrFun e137 109).trans (qw_r_eq.trans (congrArg (fun f => qzu f (6 : Int).toNat u114) hk132)))))) _).trans (hrv61.trans (congrArg (α 87) (show (0 + x2 : Int).toNat = (x2 : Int).toNat by omega))))) ((congrFun ((congrFun e3739 109).trans (qw_r_eq.trans (congrArg (fun f => qzu f (8 : Int).toNat u3716) hk3734))) _).trans ((congrFun ((congrFun e141 109).trans (qw_r_eq.trans (congrArg (fun f => qzu f (7 : Int).toNat 0) ((congrFun e137 109).trans (qw_r_eq.trans (congrArg (fun f => qzu f (6 : Int).toNat u114) hk132)))))) _).trans (hrv67.trans (congrArg (α 87) (show (0 + x3 : Int).toNat = (x3 : Int).toNat by omega))))) ((congrFun ((congrFun e3739 109).trans (qw_r_eq.trans (congrArg (fun f => qzu f (8 : Int).toNat u3716) hk3734))) _).trans ((congrFun ((congrFun e141 109).trans (qw_r_eq.trans (congrArg (fun f => qzu f (7 : Int).toNat 0) ((congrFun e137 109).trans (qw_r_eq.trans (congrArg (fun f => qzu f (6 : Int).toNat u114) hk132)))))) _).trans hx85)) ((congrFun ((congrFun e3739 109).trans (qw_r_eq.trans (congrArg (fun f => qzu f (8 : Int).toNat u3716) hk3734))) _).trans ((congrFun ((congrFun e141 109).trans (qw_r_eq.trans (congrArg (fun f => qzu f (7 : Int).toNat 0) ((congrFun e137 109).trans (qw_r_eq.trans (congrArg (fun f => qzu f (6 : Int).toNat u114) hk132)))))) _).trans hx134)) ((congrFun ((congrFun e3739 109).trans (qw_r_eq.trans (congrArg (fun f => qzu f (8 : Int).toNat u3716) hk3734))) _).trans (show qsm (qshD (α 91) x2 x5 (σ 86 10) (σ 86 41)) (u3615 : Int).toNat = qsm (qshD (α 91) x2 x5 (σ 86 10) (σ 86 41)) (σ 86 6 : Int).toNat by rw [show (u3615 : Int).toNat = (σ 86 6 : Int).toNat by omega])) ((congrFun ((congrFun e3739 109).trans (qw_r_eq.trans (congrArg (fun f => qzu f (8 : Int).toNat u3716) hk3734))) _).trans hx3736)))⟩
                    refine qr_if_ne 346 319 rfl rfl rfl (by omega) (fun h3758 => ?_) (fun h3758 => ?_)
                    · skip
                      refine qr_aload_n 347 rfl g3714 rfl ?_
                      refine qr_get 350 rfl rfl rfl (by decide) rfl ?_
                      refine qr_bipush 352 rfl (by decide) rfl ?_
                      refine qr_iaload 353 rfl rfl (by omega) (by decide) rfl ?_
                      refine qr_topI (fun v3759 hv3759 => ?_)
                      have hs3760 : (-2147483648) ≤ v3759 ∧ v3759 ≤ 2147483647 := by rw [hv3759]; exact hI3740.2.1 109 _ (show _ < 9 by omega)
                      have hrv3759 : v3759 = (α3738 109) (8 : Int).toNat := hv3759
                      refine qr_iconst 354 rfl rfl ?_
                      refine qr_icmp_ge 371 357 rfl rfl rfl (by omega) (by omega) (fun h3761 => ?_) (fun h3761 => ?_)
                      · skip
                        refine qr_iconst 372 rfl rfl ?_
                        exact hJ3756 _ 0 (by omega) (by have e0 : α3738 109 8 = v3759 := hrv3759.symm; unfold qdf; (repeat' split) <;> omega)
                      · skip
                        refine qr_aload_n 358 rfl g3714 rfl ?_
                        refine qr_get 361 rfl rfl rfl (by decide) rfl ?_
                        refine qr_iconst 362 rfl rfl ?_
                        refine qr_iaload 363 rfl rfl (by omega) (by decide) rfl ?_
                        refine qr_topI (fun v3762 hv3762 => ?_)
                        have hs3763 : (-2147483648) ≤ v3762 ∧ v3762 ≤ 2147483647 := by rw [hv3762]; exact hI3740.2.1 109 _ (show _ < 9 by omega)
                        have hrv3762 : v3762 = (α3738 109) (3 : Int).toNat := hv3762
                        refine qr_iconst 364 rfl rfl ?_
                        refine qr_icmp_ne 371 367 rfl rfl rfl (by omega) (by omega) (fun h3764 => ?_) (fun h3764 => ?_)
                        · skip
                          refine qr_iconst 372 rfl rfl ?_
                          exact hJ3756 _ 0 (by omega) (by have e0 : α3738 109 8 = v3759 := hrv3759.symm; have e1 : α3738 109 3 = v3762 := hrv3762.symm; unfold qdf; (repeat' split) <;> omega)
                        · skip
                          refine qr_iconst 368 rfl rfl ?_
                          refine qr_goto 372 rfl rfl ?_
                          exact hJ3756 _ 1 (by omega) (by have e0 : α3738 109 8 = v3759 := hrv3759.symm; have e1 : α3738 109 3 = v3762 := hrv3762.symm; unfold qdf; (repeat' split) <;> omega)
                    · skip
                      refine qr_aload_n 320 rfl g3714 rfl ?_
                      refine qr_get 323 rfl rfl rfl (by decide) rfl ?_
                      refine qr_iconst 324 rfl rfl ?_
                      refine qr_iaload 325 rfl rfl (by omega) (by decide) rfl ?_
                      refine qr_topI (fun v3765 hv3765 => ?_)
                      have hs3766 : (-2147483648) ≤ v3765 ∧ v3765 ≤ 2147483647 := by rw [hv3765]; exact hI3740.2.1 109 _ (show _ < 9 by omega)
                      have hrv3765 : v3765 = (α3738 109) (0 : Int).toNat := hv3765
                      refine qr_iconst 326 rfl rfl ?_
                      refine qr_icmp_ne 342 329 rfl rfl rfl (by omega) (by omega) (fun h3767 => ?_) (fun h3767 => ?_)
                      · skip
                        refine qr_iconst 343 rfl rfl ?_
                        refine qr_goto 372 rfl rfl ?_
                        exact hJ3756 _ 0 (by omega) (by have e0 : α3738 109 0 = v3765 := hrv3765.symm; unfold qdf; (repeat' split) <;> omega)
                      · skip
                        refine qr_aload_n 330 rfl g3714 rfl ?_
                        refine qr_get 333 rfl rfl rfl (by decide) rfl ?_
                        refine qr_iconst 334 rfl rfl ?_
                        refine qr_iaload 335 rfl rfl (by omega) (by decide) rfl ?_
                        refine qr_topI (fun v3768 hv3768 => ?_)
                        have hs3769 : (-2147483648) ≤ v3768 ∧ v3768 ≤ 2147483647 := by rw [hv3768]; exact hI3740.2.1 109 _ (show _ < 9 by omega)
                        have hrv3768 : v3768 = (α3738 109) (2 : Int).toNat := hv3768
                        refine qr_if_ne 342 338 rfl rfl rfl (by omega) (fun h3770 => ?_) (fun h3770 => ?_)
                        · skip
                          refine qr_iconst 343 rfl rfl ?_
                          refine qr_goto 372 rfl rfl ?_
                          exact hJ3756 _ 0 (by omega) (by have e0 : α3738 109 0 = v3765 := hrv3765.symm; have e1 : α3738 109 2 = v3768 := hrv3768.symm; unfold qdf; (repeat' split) <;> omega)
                        · skip
                          refine qr_iconst 339 rfl rfl ?_
                          refine qr_goto 372 rfl rfl ?_
                          exact hJ3756 _ 1 (by omega) (by have e0 : α3738 109 0 = v3765 := hrv3765.symm; have e1 : α3738 109 2 = v3768 := hrv3768.symm; unfold qdf; (repeat' split) <;> omega)
                  · skip
                    refine qr_aload_n 301 rfl g3714 rfl ?_
                    refine qr_bipush 303 rfl (by decide) rfl ?_
                    refine qr_iload_n 304 rfl g3715 rfl ?_
                    refine qr_imul 305 rfl rfl ?_
                    refine qr_aload_n 306 rfl g3714 rfl ?_
                    refine qr_get 309 rfl rfl rfl (by decide) rfl ?_
                    refine qr_iload_n 310 rfl g3715 rfl ?_
                    refine qr_iaload 311 rfl rfl (by omega) (by decide) rfl ?_
                    refine qr_topI (fun v3771 hv3771 => ?_)
                    have hs3772 : (-1) ≤ v3771 ∧ v3771 ≤ 120 := by rw [hv3771]; exact hI3740.2.1 108 _ (show _ < 2 by omega)
                    have hrv3771 : v3771 = (α 108) (x1 : Int).toNat := hv3771.trans (congrFun ((congrFun e3739 108).trans ((qw_r_ne (by decide)).trans hk3733)) _)
                    refine qr_callN 314 rfl rfl rfl (sf_213_86x (d := d + 0) hI3740 (by omega) (by omega)) ?_
                    rintro _ _ ⟨σ3776, rfl, hI3777, hG3778, v3773, rfl, hv3773, hp3774, hx3775⟩
                    have hF3779 : qFr [(86, 15), (86, 23), (86, 30), (86, 35), (86, 36), (86, 37), (86, 38), (86, 39)] [96, 109] σ α σ3776 α3738 := qFr_t hF3741 hG3778 (by decide) (by decide)
                    have hs3780 : (-1) ≤ σ3776 86 38 ∧ σ3776 86 38 ≤ 120 := hI3777.1 86 38
                    rw [hF3741.2 106 (by decide), hF3741.2 107 (by decide)] at hx3775
                    show qr_W (qe L xs vb) (d + 45) qx_e228 _ (314, _, [.int (qz v3773)], qw σ3776 α3738 κ ρ, 0, 0)
                    refine qr_retI rfl rfl (by decide) (by decide) ?_
                    exact ⟨_, _, rfl, hI3777, hF3779, v3773, rfl, by omega, (by have hw := hx3775; rw [hrv3771, show qtT (α 106) (α 107) (120 * x1) = (fun j => α 107 ((120 * x1).toNat + j)) from if_neg (by omega)] at hw; have hp := (p1.1 (α3738 109)).1 (by omega); unfold qReW at hw; have hv : v3773 = g (α3738 109) := (by rw [← hp.2]; rcases hw with hw | hw; (exact hw.2.1); (exact absurd hw.1 (by omega))); exact hv.trans (qgo_v p1.2 ((congrFun ((congrFun e3739 109).trans (qw_r_eq.trans (congrArg (fun f => qzu f (8 : Int).toNat u3716) hk3734))) _).trans ((congrFun ((congrFun e141 109).trans (qw_r_eq.trans (congrArg (fun f => qzu f (7 : Int).toNat 0) ((congrFun e137 109).trans (qw_r_eq.trans (congrArg (fun f => qzu f (6 : Int).toNat u114) hk132)))))) _).trans hx23)) ((congrFun ((congrFun e3739 109).trans (qw_r_eq.trans (congrArg (fun f => qzu f (8 : Int).toNat u3716) hk3734))) _).trans ((congrFun ((congrFun e141 109).trans (qw_r_eq.trans (congrArg (fun f => qzu f (7 : Int).toNat 0) ((congrFun e137 109).trans (qw_r_eq.trans (congrArg (fun f => qzu f (6 : Int).toNat u114) hk132)))))) _).trans hx38)) ((congrFun ((congrFun e3739 109).trans (qw_r_eq.trans (congrArg (fun f => qzu f (8 : Int).toNat u3716) hk3734))) _).trans ((congrFun ((congrFun e141 109).trans (qw_r_eq.trans (congrArg (fun f => qzu f (7 : Int).toNat 0) ((congrFun e137 109).trans (qw_r_eq.trans (congrArg (fun f => qzu f (6 : Int).toNat u114) hk132)))))) _).trans hp47.1)) ((congrFun ((congrFun e3739 109).trans (qw_r_eq.trans (congrArg (fun f => qzu f (8 : Int).toNat u3716) hk3734))) _).trans ((congrFun ((congrFun e141 109).trans (qw_r_eq.trans (congrArg (fun f => qzu f (7 : Int).toNat 0) ((congrFun e137 109).trans (qw_r_eq.trans (congrArg (fun f => qzu f (6 : Int).toNat u114) hk132)))))) _).trans (hrv61.trans (congrArg (α 87) (show (0 + x2 : Int).toNat = (x2 : Int).toNat by omega))))) ((congrFun ((congrFun e3739 109).trans (qw_r_eq.trans (congrArg (fun f => qzu f (8 : Int).toNat u3716) hk3734))) _).trans ((congrFun ((congrFun e141 109).trans (qw_r_eq.trans (congrArg (fun f => qzu f (7 : Int).toNat 0) ((congrFun e137 109).trans (qw_r_eq.trans (congrArg (fun f => qzu f (6 : Int).toNat u114) hk132)))))) _).trans (hrv67.trans (congrArg (α 87) (show (0 + x3 : Int).toNat = (x3 : Int).toNat by omega))))) ((congrFun ((congrFun e3739 109).trans (qw_r_eq.trans (congrArg (fun f => qzu f (8 : Int).toNat u3716) hk3734))) _).trans ((congrFun ((congrFun e141 109).trans (qw_r_eq.trans (congrArg (fun f => qzu f (7 : Int).toNat 0) ((congrFun e137 109).trans (qw_r_eq.trans (congrArg (fun f => qzu f (6 : Int).toNat u114) hk132)))))) _).trans hx85)) ((congrFun ((congrFun e3739 109).trans (qw_r_eq.trans (congrArg (fun f => qzu f (8 : Int).toNat u3716) hk3734))) _).trans ((congrFun ((congrFun e141 109).trans (qw_r_eq.trans (congrArg (fun f => qzu f (7 : Int).toNat 0) ((congrFun e137 109).trans (qw_r_eq.trans (congrArg (fun f => qzu f (6 : Int).toNat u114) hk132)))))) _).trans hx134)) ((congrFun ((congrFun e3739 109).trans (qw_r_eq.trans (congrArg (fun f => qzu f (8 : Int).toNat u3716) hk3734))) _).trans (show qsm (qshD (α 91) x2 x5 (σ 86 10) (σ 86 41)) (u3615 : Int).toNat = qsm (qshD (α 91) x2 x5 (σ 86 10) (σ 86 41)) (σ 86 6 : Int).toNat by rw [show (u3615 : Int).toNat = (σ 86 6 : Int).toNat by omega])) ((congrFun ((congrFun e3739 109).trans (qw_r_eq.trans (congrArg (fun f => qzu f (8 : Int).toNat u3716) hk3734))) _).trans hx3736)))⟩
                refine qr_if_ge 266 262 rfl rfl rfl (by omega) (fun h3781 => ?_) (fun h3781 => ?_)
                · skip
                  refine qr_aload_n 267 rfl g3609 rfl ?_
                  refine qr_iload_n 268 rfl g3611 rfl ?_
                  refine qr_iload 270 rfl g3612 rfl ?_
                  have hs3782 : 0 ≤ σ115 86 6 ∧ σ115 86 6 ≤ 32 := hI3618.1 86 6
                  have hs3783 : σ115 86 6 = (σ 86 6) := (hk119).trans rfl
                  refine qr_callN 273 rfl rfl rfl (sf_187_86x (d := d + 42) hI3618 (by omega) (by omega) (by omega)) ?_
                  rintro _ _ ⟨σ3786, α3787, rfl, hI3788, hG3789, v3784, rfl, hv3784, hx3785⟩
                  have hF3790 : qFr [(86, 15), (86, 23), (86, 30), (86, 35), (86, 36), (86, 37), (86, 38), (86, 39)] [96, 109] σ α σ3786 α3787 := qFr_t hF3619 hG3789 (by decide) (by decide)
                  rw [hF3619.2 94 (by decide), hF3619.2 95 (by decide), hF3619.1 86 11 (by decide)] at hx3785
                  show qr_W (qe L xs vb) (d + 45) qx_e228 _ (273, _, [.int (qz v3784), .int (qz 8), .ref 109], qw σ3786 α3787 κ ρ, 0, 0)
                  refine qr_bipush 275 rfl (by decide) rfl ?_
                  refine qr_icmp_ne 283 278 rfl rfl rfl (by omega) (by omega) (fun h3791 => ?_) (fun h3791 => ?_)
                  · skip
                    refine qr_aload_n 284 rfl g3609 rfl ?_
                    refine qr_iload_n 285 rfl g3611 rfl ?_
                    refine qr_iload 287 rfl g3612 rfl ?_
                    have hs3792 : 0 ≤ σ3786 86 6 ∧ σ3786 86 6 ≤ 32 := hI3788.1 86 6
                    have hs3793 : σ3786 86 6 = (σ 86 6) := (hG3789.1 86 6 (by decide)).trans ((hk119).trans rfl)
                    refine qr_callN 290 rfl rfl rfl (sf_187_86x (d := d + 42) hI3788 (by omega) (by omega) (by omega)) ?_
                    rintro _ _ ⟨σ3796, α3797, rfl, hI3798, hG3799, v3794, rfl, hv3794, hx3795⟩
                    have hF3800 : qFr [(86, 15), (86, 23), (86, 30), (86, 35), (86, 36), (86, 37), (86, 38), (86, 39)] [96, 109] σ α σ3796 α3797 := qFr_t hF3790 hG3799 (by decide) (by decide)
                    rw [hF3790.2 94 (by decide), hF3790.2 95 (by decide), hF3790.1 86 11 (by decide)] at hx3795
                    show qr_W (qe L xs vb) (d + 45) qx_e228 _ (290, _, [.int (qz v3794), .int (qz 8), .ref 109], qw σ3796 α3797 κ ρ, 0, 0)
                    exact hJ3737 _ v3794 σ3796 α3797 g3609 g3610 (by omega) hI3798 hF3800 ((hG3799.1 86 6 (by decide)).trans ((hG3789.1 86 6 (by decide)).trans ((hk119).trans rfl))) ((hG3799.1 86 10 (by decide)).trans ((hG3789.1 86 10 (by decide)).trans ((hk120).trans rfl))) ((hG3799.1 86 11 (by decide)).trans ((hG3789.1 86 11 (by decide)).trans ((hk121).trans rfl))) ((hG3799.1 86 16 (by decide)).trans ((hG3789.1 86 16 (by decide)).trans ((hk122).trans rfl))) ((hG3799.1 86 22 (by decide)).trans ((hG3789.1 86 22 (by decide)).trans ((hk123).trans rfl))) ((hG3799.1 86 23 (by decide)).trans ((hG3789.1 86 23 (by decide)).trans ((hk124).trans rfl))) ((hG3799.1 86 24 (by decide)).trans ((hG3789.1 86 24 (by decide)).trans ((hk125).trans rfl))) ((hG3799.1 86 29 (by decide)).trans ((hG3789.1 86 29 (by decide)).trans ((hk126).trans rfl))) ((hG3799.1 86 30 (by decide)).trans ((hG3789.1 86 30 (by decide)).trans ((hk127).trans rfl))) ((hG3799.1 86 41 (by decide)).trans ((hG3789.1 86 41 (by decide)).trans ((hk128).trans rfl))) ((hG3799.2 87 (by decide)).trans ((hG3789.2 87 (by decide)).trans hk3620)) ((hG3799.2 91 (by decide)).trans ((hG3789.2 91 (by decide)).trans hk3621)) ((hG3799.2 108 (by decide)).trans ((hG3789.2 108 (by decide)).trans hk3622)) ((hG3799.2 109 (by decide)).trans ((hG3789.2 109 (by decide)).trans hx3624)) (by rw [if_neg (by omega)]; have h1 := hx3795; have h2 := qd9_r (α 94) (α 95) (σ 86 11) x2 x4; exact qm9_v (by omega))
                  · skip
                    refine qr_bipush 280 rfl (by decide) rfl ?_
                    refine qr_goto 290 rfl rfl ?_
                    exact hJ3737 _ 9 σ3786 α3787 g3609 g3610 (by omega) hI3788 hF3790 ((hG3789.1 86 6 (by decide)).trans ((hk119).trans rfl)) ((hG3789.1 86 10 (by decide)).trans ((hk120).trans rfl)) ((hG3789.1 86 11 (by decide)).trans ((hk121).trans rfl)) ((hG3789.1 86 16 (by decide)).trans ((hk122).trans rfl)) ((hG3789.1 86 22 (by decide)).trans ((hk123).trans rfl)) ((hG3789.1 86 23 (by decide)).trans ((hk124).trans rfl)) ((hG3789.1 86 24 (by decide)).trans ((hk125).trans rfl)) ((hG3789.1 86 29 (by decide)).trans ((hk126).trans rfl)) ((hG3789.1 86 30 (by decide)).trans ((hk127).trans rfl)) ((hG3789.1 86 41 (by decide)).trans ((hk128).trans rfl)) ((hG3789.2 87 (by decide)).trans hk3620) ((hG3789.2 91 (by decide)).trans hk3621) ((hG3789.2 108 (by decide)).trans hk3622) ((hG3789.2 109 (by decide)).trans hx3624) (by rw [if_neg (by omega)]; have h1 := hx3785; have h2 := qd9_r (α 94) (α 95) (σ 86 11) x2 x4; exact qm9_v (by omega))
                · skip
                  refine qr_iconst 263 rfl rfl ?_
                  refine qr_goto 290 rfl rfl ?_
                  exact hJ3737 _ 0 σ115 α3617 g3609 g3610 (by omega) hI3618 hF3619 ((hk119).trans rfl) ((hk120).trans rfl) ((hk121).trans rfl) ((hk122).trans rfl) ((hk123).trans rfl) ((hk124).trans rfl) ((hk125).trans rfl) ((hk126).trans rfl) ((hk127).trans rfl) ((hk128).trans rfl) hk3620 hk3621 hk3622 hx3624 (by rw [if_pos (by omega)])
              · skip
                refine qr_lload 161 rfl g3613 rfl ?_
                refine qr_iload 163 rfl g3614 rfl ?_
                refine qr_lshr 164 rfl rfl ?_
                refine qy_canlE (fun v3801 hv3801 hev3801 => ?_)
                refine qr_lconst 165 rfl rfl ?_
                refine qy_vl 1 rfl ?_
                refine qr_land 166 rfl rfl ?_
                refine qy_canlE (fun v3802 hv3802 hev3802 => ?_)
                refine qr_lconst 167 rfl rfl ?_
                refine qy_vl 1 rfl ?_
                have hJ3834 : ∀ (ls : qm_L) (u3831 : Int), qm_get ls 0 = some (.ref 86) → qm_get ls 1 = some (.int (qz x1)) → qm_get ls 2 = some (.int (qz x2)) → qm_get ls 4 = some (.int (qz x4)) → qm_get ls 5 = some (.long (ql x5)) → qm_get ls 9 = some (.int (qz u3615)) → (0 ≤ u3831 ∧ u3831 ≤ 1) → u3831 = (qshD (α 91) x2 x5 (σ 86 10) (σ 86 41)) (u3615 : Int).toNat → qr_W (qe L xs vb) (d + 45) qx_e228 (fun r w' => ∃ σ' α', w' = qw σ' α' κ ρ ∧ qI σ' α' κ ρ ∧ qFr [(86, 15), (86, 23), (86, 30), (86, 35), (86, 36), (86, 37), (86, 38), (86, 39)] [96, 109] σ α σ' α' ∧ ∃ v : Int, r = some (.int (qz v)) ∧ ((-2147483648) ≤ v ∧ v ≤ 2147483647) ∧ v = g (qNVr σ α (σ 86 29) (σ 86 10) x2 x3 x4 x5 x6)) (223, ls, [.int (qz u3831)], qw σ115 α3617 κ ρ, 0, 0) := by
                  intro ls u3831 g3825 g3826 g3827 g3828 g3829 g3830 hf3832 hx3833
                  refine qr_istore _ 225 rfl (by decide) rfl rfl ?_
                  refine qr_aload_n 226 rfl (qm_gk g3825 (by decide) (Or.inl (by decide))) rfl ?_
                  refine qr_get 229 rfl rfl rfl (by decide) rfl ?_
                  refine qr_bipush 231 rfl (by decide) rfl ?_
                  refine qr_dup2 232 rfl rfl rfl rfl ?_
                  refine qr_iaload 233 rfl rfl (by omega) (by decide) rfl ?_
                  refine qr_topI (fun v3835 hv3835 => ?_)
                  have hs3836 : (-2147483648) ≤ v3835 ∧ v3835 ≤ 2147483647 := by rw [hv3835]; exact hI3618.2.1 109 _ (show _ < 9 by omega)
                  have hrv3835 : v3835 = (qzu (α140 109) (7 : Int).toNat (qsm (qshD (α 91) x2 x5 (σ 86 10) (σ 86 41)) (u3615 : Int).toNat)) (7 : Int).toNat := hv3835.trans (congrFun hx3624 _)
                  refine qr_iload 235 rfl (qm_ge _ _ _) rfl ?_
                  have hJ3846 : ∀ (ls : qm_L) (u3843 : Int), qm_get ls 0 = some (.ref 86) → qm_get ls 1 = some (.int (qz x1)) → qm_get ls 2 = some (.int (qz x2)) → qm_get ls 4 = some (.int (qz x4)) → qm_get ls 5 = some (.long (ql x5)) → qm_get ls 9 = some (.int (qz u3615)) → (0 ≤ u3843 ∧ u3843 ≤ 1) → u3843 = u3831 → qr_W (qe L xs vb) (d + 45) qx_e228 (fun r w' => ∃ σ' α', w' = qw σ' α' κ ρ ∧ qI σ' α' κ ρ ∧ qFr [(86, 15), (86, 23), (86, 30), (86, 35), (86, 36), (86, 37), (86, 38), (86, 39)] [96, 109] σ α σ' α' ∧ ∃ v : Int, r = some (.int (qz v)) ∧ ((-2147483648) ≤ v ∧ v ≤ 2147483647) ∧ v = g (qNVr σ α (σ 86 29) (σ 86 10) x2 x3 x4 x5 x6)) (243, ls, [.int (qz u3843), .int (qz v3835), .int (qz 7), .ref 109], qw σ115 α3617 κ ρ, 0, 0) := by
                    intro ls u3843 g3837 g3838 g3839 g3840 g3841 g3842 hf3844 hx3845
                    refine qr_iadd 244 rfl rfl ?_
                    refine qy_canE (fun v3847 hv3847 hev3847 => ?_)
                    refine qr_iastore 245 rfl (by decide) rfl (by omega) (by decide) rfl ?_
                    refine qy_wA (qw_r α3617 109 (qzu (α3617 109) (7 : Int).toNat v3847)) rfl (fun α3848 e3849 => ?_)
                    have hI3850 : qI σ115 α3848 κ ρ := by rw [e3849]; exact qI_r hI3618 109 _ rfl (show (-2147483648) ≤ v3847 ∧ v3847 ≤ 2147483647 by omega)
                    have hF3851 : qFr [(86, 15), (86, 23), (86, 30), (86, 35), (86, 36), (86, 37), (86, 38), (86, 39)] [96, 109] σ α σ115 α3848 := by rw [e3849]; exact qFr_r hF3619 109 _ (by decide)
                    refine qr_iinc _ 248 rfl g3842 (by decide) rfl rfl ?_
                    refine qr_goto 150 rfl rfl ?_
                    exact ih3627 _ (u3615 + 1) α3848 (by omega) (qm_gk g3837 (by decide) (Or.inl (by decide))) (qm_gk g3838 (by decide) (Or.inl (by decide))) (qm_gk g3839 (by decide) (Or.inl (by decide))) (qm_gk g3840 (by decide) (Or.inl (by decide))) (qm_gk g3841 (by decide) (Or.inl (by decide))) (qm_ge _ _ _) (by omega) hI3850 hF3851 ((congrFun e3849 87).trans ((qw_r_ne (by decide)).trans hk3620)) ((congrFun e3849 91).trans ((qw_r_ne (by decide)).trans hk3621)) ((congrFun e3849 108).trans ((qw_r_ne (by decide)).trans hk3622)) (((congrFun e3849 109).trans (qw_r_eq.trans (congrArg (fun f => qzu f (7 : Int).toNat v3847) hx3624))).trans (qzu_2 (by have a : v3835 = qsm (qshD (α 91) x2 x5 (σ 86 10) (σ 86 41)) (u3615 : Int).toNat := hrv3835; have b := qsm_s (qshD (α 91) x2 x5 (σ 86 10) (σ 86 41)) (i := u3615) (by omega); have c := qshD_01 (α 91) x2 x5 (σ 86 10) (σ 86 41) (u3615 : Int).toNat; have e := qsm_01 (fun r => qshD_01 (α 91) x2 x5 (σ 86 10) (σ 86 41) r) (u3615 : Int).toNat; have h1 := hx3833; have h2 := hx3845; have w := qz_val hev3847 (by omega) (by omega); omega))) (by omega)
                  refine qr_if_eq 242 238 rfl rfl rfl (by omega) (fun h3852 => ?_) (fun h3852 => ?_)
                  · skip
                    refine qr_iconst 243 rfl rfl ?_
                    exact hJ3846 _ 0 (qm_gk g3825 (by decide) (Or.inl (by decide))) (qm_gk g3826 (by decide) (Or.inl (by decide))) (qm_gk g3827 (by decide) (Or.inl (by decide))) (qm_gk g3828 (by decide) (Or.inl (by decide))) (qm_gk g3829 (by decide) (Or.inl (by decide))) (qm_gk g3830 (by decide) (Or.inr rfl)) (by omega) (by omega)
                  · skip
                    refine qr_iconst 239 rfl rfl ?_
                    refine qr_goto 243 rfl rfl ?_
                    exact hJ3846 _ 1 (qm_gk g3825 (by decide) (Or.inl (by decide))) (qm_gk g3826 (by decide) (Or.inl (by decide))) (qm_gk g3827 (by decide) (Or.inl (by decide))) (qm_gk g3828 (by decide) (Or.inl (by decide))) (qm_gk g3829 (by decide) (Or.inl (by decide))) (qm_gk g3830 (by decide) (Or.inr rfl)) (by omega) (by omega)
                refine qr_lc_ne 222 171 rfl rfl rfl rfl (by omega) (by omega) (fun h3853 => ?_) (fun h3853 => ?_)
                · skip
                  refine qr_iconst 223 rfl rfl ?_
                  exact hJ3834 _ 0 g3609 g3610 g3611 g3612 g3613 g3614 (by omega) (by have hb := qbit_inS (t := x5) (i := u3615) (by omega) (by omega) hev3801 hev3802; have hc := qshD_c (α 91) x2 x5 (σ 86 10) (σ 86 41) (i := u3615) (by omega); omega)
                · skip
                  refine qr_aload_n 172 rfl g3609 rfl ?_
                  refine qr_get 175 rfl rfl rfl (by decide) rfl ?_
                  refine qy_v (σ 86 41) ((hk128).trans rfl) ?_
                  refine qr_if_ne 187 178 rfl rfl rfl (by omega) (fun h3854 => ?_) (fun h3854 => ?_)
                  · skip
                    refine qr_iload 189 rfl g3614 rfl ?_
                    refine qr_iload_n 190 rfl g3611 rfl ?_
                    refine qr_icmp_eq 218 193 rfl rfl rfl (by omega) (by omega) (fun h3855 => ?_) (fun h3855 => ?_)
                    · skip
                      refine qr_iconst 219 rfl rfl ?_
                      refine qr_goto 223 rfl rfl ?_
                      exact hJ3834 _ 1 g3609 g3610 g3611 g3612 g3613 g3614 (by omega) (by have hb := qbit_inS (t := x5) (i := u3615) (by omega) (by omega) hev3801 hev3802; have hc := qshD_c (α 91) x2 x5 (σ 86 10) (σ 86 41) (i := u3615) (by omega); omega)
                    · skip
                      refine qr_aload_n 194 rfl g3609 rfl ?_
                      refine qr_get 197 rfl rfl rfl (by decide) rfl ?_
                      refine qr_iload_n 198 rfl g3611 rfl ?_
                      refine qr_iaload 199 rfl rfl (by omega) (by decide) rfl ?_
                      refine qr_topI (fun v3856 hv3856 => ?_)
                      have hs3857 : (-1) ≤ v3856 ∧ v3856 ≤ 31 := by rw [hv3856]; exact hI3618.2.1 91 _ (show _ < 32 by omega)
                      have hrv3856 : v3856 = (α 91) (x2 : Int).toNat := hv3856.trans (congrFun hk3621 _)
                      have hs3858 := hI3618.2.2.2.2.2.2.1 (x2 : Int).toNat (by omega)
                      refine qr_if_lt 222 202 rfl rfl rfl (by omega) (fun h3859 => ?_) (fun h3859 => ?_)
                      · skip
                        refine qr_iconst 223 rfl rfl ?_
                        exact hJ3834 _ 0 g3609 g3610 g3611 g3612 g3613 g3614 (by omega) (by have hb := qbit_inS (t := x5) (i := u3615) (by omega) (by omega) hev3801 hev3802; have hc := qshD_c (α 91) x2 x5 (σ 86 10) (σ 86 41) (i := u3615) (by omega); omega)
                      · skip
                        refine qr_aload_n 203 rfl g3609 rfl ?_
                        refine qr_get 206 rfl rfl rfl (by decide) rfl ?_
                        refine qr_iload 208 rfl g3614 rfl ?_
                        refine qr_iaload 209 rfl rfl (by omega) (by decide) rfl ?_
                        refine qr_topI (fun v3860 hv3860 => ?_)
                        have hs3861 : (-1) ≤ v3860 ∧ v3860 ≤ 31 := by rw [hv3860]; exact hI3618.2.1 91 _ (show _ < 32 by omega)
                        have hrv3860 : v3860 = (α 91) (u3615 : Int).toNat := hv3860.trans (congrFun hk3621 _)
                        have hs3862 := hI3618.2.2.2.2.2.2.1 (u3615 : Int).toNat (by omega)
                        refine qr_aload_n 210 rfl g3609 rfl ?_
                        refine qr_get 213 rfl rfl rfl (by decide) rfl ?_
                        refine qr_iload_n 214 rfl g3611 rfl ?_
                        refine qr_iaload 215 rfl rfl (by omega) (by decide) rfl ?_
                        refine qr_topI (fun v3863 hv3863 => ?_)
                        have hs3864 : (-1) ≤ v3863 ∧ v3863 ≤ 31 := by rw [hv3863]; exact hI3618.2.1 91 _ (show _ < 32 by omega)
                        have hrv3863 : v3863 = (α 91) (x2 : Int).toNat := hv3863.trans (congrFun hk3621 _)
                        have hs3865 := hI3618.2.2.2.2.2.2.1 (x2 : Int).toNat (by omega)
                        refine qr_icmp_ne 222 218 rfl rfl rfl (by omega) (by omega) (fun h3866 => ?_) (fun h3866 => ?_)
                        · skip
                          refine qr_iconst 223 rfl rfl ?_
                          exact hJ3834 _ 0 g3609 g3610 g3611 g3612 g3613 g3614 (by omega) (by have hb := qbit_inS (t := x5) (i := u3615) (by omega) (by omega) hev3801 hev3802; have hc := qshD_c (α 91) x2 x5 (σ 86 10) (σ 86 41) (i := u3615) (by omega); omega)
                        · skip
                          refine qr_iconst 219 rfl rfl ?_
                          refine qr_goto 223 rfl rfl ?_
                          exact hJ3834 _ 1 g3609 g3610 g3611 g3612 g3613 g3614 (by omega) (by have hb := qbit_inS (t := x5) (i := u3615) (by omega) (by omega) hev3801 hev3802; have hc := qshD_c (α 91) x2 x5 (σ 86 10) (σ 86 41) (i := u3615) (by omega); omega)
                  · skip
                    refine qr_aload_n 179 rfl g3609 rfl ?_
                    refine qr_iload 181 rfl g3614 rfl ?_
                    refine qr_callN 184 rfl rfl rfl (sf_181_86x (d := d + 44) hI3618 (by omega)) ?_
                    have hs3869 : (-9223372036854775808) ≤ σ115 86 10 ∧ σ115 86 10 ≤ 9223372036854775807 := hI3618.1 86 10
                    have hs3870 : σ115 86 10 = (σ 86 10) := (hk120).trans rfl
                    rintro _ _ ⟨rfl, v3867, rfl, hv3867, hp3868⟩
                    rw [hF3619.1 86 10 (by decide)] at hp3868
                    show qr_W (qe L xs vb) (d + 45) qx_e228 _ (184, _, [.int (qz v3867)], qw σ115 α3617 κ ρ, 0, 0)
                    refine qr_if_ne 222 187 rfl rfl rfl (by omega) (fun h3871 => ?_) (fun h3871 => ?_)
                    · skip
                      refine qr_iconst 223 rfl rfl ?_
                      exact hJ3834 _ 0 g3609 g3610 g3611 g3612 g3613 g3614 (by omega) (by have hb := qbit_inS (t := x5) (i := u3615) (by omega) (by omega) hev3801 hev3802; have hc := qshD_c (α 91) x2 x5 (σ 86 10) (σ 86 41) (i := u3615) (by omega); omega)
                    · skip
                      refine qr_iload 189 rfl g3614 rfl ?_
                      refine qr_iload_n 190 rfl g3611 rfl ?_
                      refine qr_icmp_eq 218 193 rfl rfl rfl (by omega) (by omega) (fun h3872 => ?_) (fun h3872 => ?_)
                      · skip
                        refine qr_iconst 219 rfl rfl ?_
                        refine qr_goto 223 rfl rfl ?_
                        exact hJ3834 _ 1 g3609 g3610 g3611 g3612 g3613 g3614 (by omega) (by have hb := qbit_inS (t := x5) (i := u3615) (by omega) (by omega) hev3801 hev3802; have hc := qshD_c (α 91) x2 x5 (σ 86 10) (σ 86 41) (i := u3615) (by omega); omega)
                      · skip
                        refine qr_aload_n 194 rfl g3609 rfl ?_
                        refine qr_get 197 rfl rfl rfl (by decide) rfl ?_
                        refine qr_iload_n 198 rfl g3611 rfl ?_
                        refine qr_iaload 199 rfl rfl (by omega) (by decide) rfl ?_
                        refine qr_topI (fun v3873 hv3873 => ?_)
                        have hs3874 : (-1) ≤ v3873 ∧ v3873 ≤ 31 := by rw [hv3873]; exact hI3618.2.1 91 _ (show _ < 32 by omega)
                        have hrv3873 : v3873 = (α 91) (x2 : Int).toNat := hv3873.trans (congrFun hk3621 _)
                        have hs3875 := hI3618.2.2.2.2.2.2.1 (x2 : Int).toNat (by omega)
                        refine qr_if_lt 222 202 rfl rfl rfl (by omega) (fun h3876 => ?_) (fun h3876 => ?_)
                        · skip
                          refine qr_iconst 223 rfl rfl ?_
                          exact hJ3834 _ 0 g3609 g3610 g3611 g3612 g3613 g3614 (by omega) (by have hb := qbit_inS (t := x5) (i := u3615) (by omega) (by omega) hev3801 hev3802; have hc := qshD_c (α 91) x2 x5 (σ 86 10) (σ 86 41) (i := u3615) (by omega); omega)
                        · skip
                          refine qr_aload_n 203 rfl g3609 rfl ?_
                          refine qr_get 206 rfl rfl rfl (by decide) rfl ?_
                          refine qr_iload 208 rfl g3614 rfl ?_
                          refine qr_iaload 209 rfl rfl (by omega) (by decide) rfl ?_
                          refine qr_topI (fun v3877 hv3877 => ?_)
                          have hs3878 : (-1) ≤ v3877 ∧ v3877 ≤ 31 := by rw [hv3877]; exact hI3618.2.1 91 _ (show _ < 32 by omega)
                          have hrv3877 : v3877 = (α 91) (u3615 : Int).toNat := hv3877.trans (congrFun hk3621 _)
                          have hs3879 := hI3618.2.2.2.2.2.2.1 (u3615 : Int).toNat (by omega)
                          refine qr_aload_n 210 rfl g3609 rfl ?_
                          refine qr_get 213 rfl rfl rfl (by decide) rfl ?_
                          refine qr_iload_n 214 rfl g3611 rfl ?_
                          refine qr_iaload 215 rfl rfl (by omega) (by decide) rfl ?_
                          refine qr_topI (fun v3880 hv3880 => ?_)
                          have hs3881 : (-1) ≤ v3880 ∧ v3880 ≤ 31 := by rw [hv3880]; exact hI3618.2.1 91 _ (show _ < 32 by omega)
                          have hrv3880 : v3880 = (α 91) (x2 : Int).toNat := hv3880.trans (congrFun hk3621 _)
                          have hs3882 := hI3618.2.2.2.2.2.2.1 (x2 : Int).toNat (by omega)
                          refine qr_icmp_ne 222 218 rfl rfl rfl (by omega) (by omega) (fun h3883 => ?_) (fun h3883 => ?_)
                          · skip
                            refine qr_iconst 223 rfl rfl ?_
                            exact hJ3834 _ 0 g3609 g3610 g3611 g3612 g3613 g3614 (by omega) (by have hb := qbit_inS (t := x5) (i := u3615) (by omega) (by omega) hev3801 hev3802; have hc := qshD_c (α 91) x2 x5 (σ 86 10) (σ 86 41) (i := u3615) (by omega); omega)
                          · skip
                            refine qr_iconst 219 rfl rfl ?_
                            refine qr_goto 223 rfl rfl ?_
                            exact hJ3834 _ 1 g3609 g3610 g3611 g3612 g3613 g3614 (by omega) (by have hb := qbit_inS (t := x5) (i := u3615) (by omega) (by omega) hev3801 hev3802; have hc := qshD_c (α 91) x2 x5 (σ 86 10) (σ 86 41) (i := u3615) (by omega); omega)
          exact hL3626 ((32 - 0 + 1 : Int)).toNat _ 0 α140 (by omega) (qm_gk g109 (by decide) (Or.inl (by decide))) (qm_gk g110 (by decide) (Or.inl (by decide))) (qm_gk g111 (by decide) (Or.inl (by decide))) (qm_gk g112 (by decide) (Or.inl (by decide))) (qm_gk g113 (by decide) (Or.inl (by decide))) (qm_ge _ _ _) (by omega) hI142 hF143 ((congrFun e141 87).trans ((qw_r_ne (by decide)).trans ((congrFun e137 87).trans ((qw_r_ne (by decide)).trans hk129)))) ((congrFun e141 91).trans ((qw_r_ne (by decide)).trans ((congrFun e137 91).trans ((qw_r_ne (by decide)).trans hk130)))) ((congrFun e141 108).trans ((qw_r_ne (by decide)).trans ((congrFun e137 108).trans ((qw_r_ne (by decide)).trans hk131)))) (qzu_self (show qsm (qshD (α 91) x2 x5 (σ 86 10) (σ 86 41)) (0 : Int).toNat = α140 109 (7 : Int).toNat from (congrFun ((congrFun e141 109).trans (qw_r_eq.trans (congrArg (fun f => qzu f (7 : Int).toNat 0) ((congrFun e137 109).trans (qw_r_eq.trans (congrArg (fun f => qzu f (6 : Int).toNat u114) hk132)))))) (7 : Int).toNat).symm)) (by omega)
        refine qr_icmp_ne 132 127 rfl rfl rfl (by omega) (by omega) (fun h3884 => ?_) (fun h3884 => ?_)
        · skip
          refine qr_aload_n 133 rfl g77 rfl ?_
          refine qr_iload_n 134 rfl g79 rfl ?_
          refine qr_iload_n 135 rfl g80 rfl ?_
          have hs3885 : 0 ≤ σ95 86 6 ∧ σ95 86 6 ≤ 32 := hI97.1 86 6
          have hs3886 : σ95 86 6 = (σ 86 6) := (hG98.1 86 6 (by decide)).trans ((hG54.1 86 6 (by decide)).trans ((hG10.1 86 6 (by decide)).trans rfl))
          refine qr_callN 138 rfl rfl rfl (sf_187_86x (d := d + 42) hI97 (by omega) (by omega) (by omega)) ?_
          rintro _ _ ⟨σ3889, α3890, rfl, hI3891, hG3892, v3887, rfl, hv3887, hx3888⟩
          have hF3893 : qFr [(86, 15), (86, 23), (86, 30), (86, 35), (86, 36), (86, 37), (86, 38), (86, 39)] [96, 109] σ α σ3889 α3890 := qFr_t hF99 hG3892 (by decide) (by decide)
          rw [hF99.2 94 (by decide), hF99.2 95 (by decide), hF99.1 86 11 (by decide)] at hx3888
          show qr_W (qe L xs vb) (d + 45) qx_e228 _ (138, _, [.int (qz v3887), .int (qz 6), .ref 109], qw σ3889 α3890 κ ρ, 0, 0)
          exact hJ135 _ v3887 σ3889 α3890 g77 g78 g79 g81 g82 (by omega) hI3891 hF3893 ((hG3892.1 86 6 (by decide)).trans ((hG98.1 86 6 (by decide)).trans ((hG54.1 86 6 (by decide)).trans ((hG10.1 86 6 (by decide)).trans rfl)))) ((hG3892.1 86 10 (by decide)).trans ((hG98.1 86 10 (by decide)).trans ((hG54.1 86 10 (by decide)).trans ((hG10.1 86 10 (by decide)).trans rfl)))) ((hG3892.1 86 11 (by decide)).trans ((hG98.1 86 11 (by decide)).trans ((hG54.1 86 11 (by decide)).trans ((hG10.1 86 11 (by decide)).trans rfl)))) ((hG3892.1 86 16 (by decide)).trans ((hG98.1 86 16 (by decide)).trans ((hG54.1 86 16 (by decide)).trans ((hG10.1 86 16 (by decide)).trans rfl)))) ((hG3892.1 86 22 (by decide)).trans ((hG98.1 86 22 (by decide)).trans ((hG54.1 86 22 (by decide)).trans ((hG10.1 86 22 (by decide)).trans rfl)))) ((hG3892.1 86 23 (by decide)).trans ((hG98.1 86 23 (by decide)).trans ((hG54.1 86 23 (by decide)).trans rfl))) ((hG3892.1 86 24 (by decide)).trans ((hG98.1 86 24 (by decide)).trans ((hG54.1 86 24 (by decide)).trans ((hG10.1 86 24 (by decide)).trans rfl)))) ((hG3892.1 86 29 (by decide)).trans ((hG98.1 86 29 (by decide)).trans ((hG54.1 86 29 (by decide)).trans ((hG10.1 86 29 (by decide)).trans rfl)))) ((hG3892.1 86 30 (by decide)).trans ((hG98.1 86 30 (by decide)).trans rfl)) ((hG3892.1 86 41 (by decide)).trans ((hG98.1 86 41 (by decide)).trans ((hG54.1 86 41 (by decide)).trans ((hG10.1 86 41 (by decide)).trans rfl)))) ((hG3892.2 87 (by decide)).trans ((hG98.2 87 (by decide)).trans ((congrFun e88 87).trans ((qw_r_ne (by decide)).trans ((congrFun e70 87).trans ((qw_r_ne (by decide)).trans ((congrFun e64 87).trans ((qw_r_ne (by decide)).trans ((congrFun e58 87).trans ((qw_r_ne (by decide)).trans ((congrFun e41 87).trans ((qw_r_ne (by decide)).trans ((congrFun e26 87).trans ((qw_r_ne (by decide)).trans ((hG10.2 87 (by decide)).trans rfl))))))))))))))) ((hG3892.2 91 (by decide)).trans ((hG98.2 91 (by decide)).trans ((congrFun e88 91).trans ((qw_r_ne (by decide)).trans ((congrFun e70 91).trans ((qw_r_ne (by decide)).trans ((congrFun e64 91).trans ((qw_r_ne (by decide)).trans ((congrFun e58 91).trans ((qw_r_ne (by decide)).trans ((congrFun e41 91).trans ((qw_r_ne (by decide)).trans ((congrFun e26 91).trans ((qw_r_ne (by decide)).trans ((hG10.2 91 (by decide)).trans rfl))))))))))))))) ((hG3892.2 108 (by decide)).trans ((hG98.2 108 (by decide)).trans ((congrFun e88 108).trans ((qw_r_ne (by decide)).trans ((congrFun e70 108).trans ((qw_r_ne (by decide)).trans ((congrFun e64 108).trans ((qw_r_ne (by decide)).trans ((congrFun e58 108).trans ((qw_r_ne (by decide)).trans ((congrFun e41 108).trans ((qw_r_ne (by decide)).trans ((congrFun e26 108).trans ((qw_r_ne (by decide)).trans ((hG10.2 108 (by decide)).trans rfl))))))))))))))) ((hG3892.2 109 (by decide)).trans ((hG98.2 109 (by decide)).trans ((congrFun e88 109).trans (qw_r_eq.trans (congrArg (fun f => qzu f (5 : Int).toNat u83) ((congrFun e70 109).trans (qw_r_eq.trans (congrArg (fun f => qzu f (4 : Int).toNat v67) ((congrFun e64 109).trans (qw_r_eq.trans (congrArg (fun f => qzu f (3 : Int).toNat v61) ((congrFun e58 109).trans (qw_r_eq.trans (congrArg (fun f => qzu f (2 : Int).toNat v46) ((congrFun e41 109).trans (qw_r_eq.trans (congrArg (fun f => qzu f (1 : Int).toNat u36) ((congrFun e26 109).trans (qw_r_eq.trans (congrArg (fun f => qzu f (0 : Int).toNat u21) ((hG10.2 109 (by decide)).trans rfl))))))))))))))))))))) (by have h1 := hx3888; have h2 := qd9_r (α 94) (α 95) (σ 86 11) x2 x3; exact qm9_v (by omega))
        · skip
          refine qr_bipush 129 rfl (by decide) rfl ?_
          refine qr_goto 138 rfl rfl ?_
          exact hJ135 _ 9 σ95 α96 g77 g78 g79 g81 g82 (by omega) hI97 hF99 ((hG98.1 86 6 (by decide)).trans ((hG54.1 86 6 (by decide)).trans ((hG10.1 86 6 (by decide)).trans rfl))) ((hG98.1 86 10 (by decide)).trans ((hG54.1 86 10 (by decide)).trans ((hG10.1 86 10 (by decide)).trans rfl))) ((hG98.1 86 11 (by decide)).trans ((hG54.1 86 11 (by decide)).trans ((hG10.1 86 11 (by decide)).trans rfl))) ((hG98.1 86 16 (by decide)).trans ((hG54.1 86 16 (by decide)).trans ((hG10.1 86 16 (by decide)).trans rfl))) ((hG98.1 86 22 (by decide)).trans ((hG54.1 86 22 (by decide)).trans ((hG10.1 86 22 (by decide)).trans rfl))) ((hG98.1 86 23 (by decide)).trans ((hG54.1 86 23 (by decide)).trans rfl)) ((hG98.1 86 24 (by decide)).trans ((hG54.1 86 24 (by decide)).trans ((hG10.1 86 24 (by decide)).trans rfl))) ((hG98.1 86 29 (by decide)).trans ((hG54.1 86 29 (by decide)).trans ((hG10.1 86 29 (by decide)).trans rfl))) ((hG98.1 86 30 (by decide)).trans rfl) ((hG98.1 86 41 (by decide)).trans ((hG54.1 86 41 (by decide)).trans ((hG10.1 86 41 (by decide)).trans rfl))) ((hG98.2 87 (by decide)).trans ((congrFun e88 87).trans ((qw_r_ne (by decide)).trans ((congrFun e70 87).trans ((qw_r_ne (by decide)).trans ((congrFun e64 87).trans ((qw_r_ne (by decide)).trans ((congrFun e58 87).trans ((qw_r_ne (by decide)).trans ((congrFun e41 87).trans ((qw_r_ne (by decide)).trans ((congrFun e26 87).trans ((qw_r_ne (by decide)).trans ((hG10.2 87 (by decide)).trans rfl)))))))))))))) ((hG98.2 91 (by decide)).trans ((congrFun e88 91).trans ((qw_r_ne (by decide)).trans ((congrFun e70 91).trans ((qw_r_ne (by decide)).trans ((congrFun e64 91).trans ((qw_r_ne (by decide)).trans ((congrFun e58 91).trans ((qw_r_ne (by decide)).trans ((congrFun e41 91).trans ((qw_r_ne (by decide)).trans ((congrFun e26 91).trans ((qw_r_ne (by decide)).trans ((hG10.2 91 (by decide)).trans rfl)))))))))))))) ((hG98.2 108 (by decide)).trans ((congrFun e88 108).trans ((qw_r_ne (by decide)).trans ((congrFun e70 108).trans ((qw_r_ne (by decide)).trans ((congrFun e64 108).trans ((qw_r_ne (by decide)).trans ((congrFun e58 108).trans ((qw_r_ne (by decide)).trans ((congrFun e41 108).trans ((qw_r_ne (by decide)).trans ((congrFun e26 108).trans ((qw_r_ne (by decide)).trans ((hG10.2 108 (by decide)).trans rfl)))))))))))))) ((hG98.2 109 (by decide)).trans ((congrFun e88 109).trans (qw_r_eq.trans (congrArg (fun f => qzu f (5 : Int).toNat u83) ((congrFun e70 109).trans (qw_r_eq.trans (congrArg (fun f => qzu f (4 : Int).toNat v67) ((congrFun e64 109).trans (qw_r_eq.trans (congrArg (fun f => qzu f (3 : Int).toNat v61) ((congrFun e58 109).trans (qw_r_eq.trans (congrArg (fun f => qzu f (2 : Int).toNat v46) ((congrFun e41 109).trans (qw_r_eq.trans (congrArg (fun f => qzu f (1 : Int).toNat u36) ((congrFun e26 109).trans (qw_r_eq.trans (congrArg (fun f => qzu f (0 : Int).toNat u21) ((hG10.2 109 (by decide)).trans rfl)))))))))))))))))))) (by have h1 := hx94; have h2 := qd9_r (α 94) (α 95) (σ 86 11) x2 x3; exact qm9_v (by omega))
      refine qr_if_eq 108 104 rfl rfl rfl (by omega) (fun h3894 => ?_) (fun h3894 => ?_)
      · skip
        refine qr_iconst 109 rfl rfl ?_
        exact hJ86 _ 0 g29 g30 g31 g32 g33 g34 (by omega) (by have h1 := hp76; omega)
      · skip
        refine qr_iconst 105 rfl rfl ?_
        refine qr_goto 109 rfl rfl ?_
        exact hJ86 _ 1 g29 g30 g31 g32 g33 g34 (by omega) (by have h1 := hp76; omega)
    refine qr_icmp_ne 45 40 rfl rfl rfl (by omega) (by omega) (fun h3895 => ?_) (fun h3895 => ?_)
    · skip
      refine qr_iload 47 rfl g20 rfl ?_
      exact hJ39 _ v2 g13 g14 g15 g16 g17 g18 g19 (by omega) (by have h1 := hp3; have h2 := qnF_le (qd9 (α 94) (α 95) (σ 86 11)) (α 97) (α 98) (α 100) (α 99) (qsh (α 87) 32) (σ 86 22) (σ 86 16) x2 x3 x6; omega)
    · skip
      refine qr_bipush 42 rfl (by decide) rfl ?_
      refine qr_goto 47 rfl rfl ?_
      exact hJ39 _ 9 g13 g14 g15 g16 g17 g18 g19 (by omega) (by have h1 := hp3; have h2 := qnF_le (qd9 (α 94) (α 95) (σ 86 11)) (α 97) (α 98) (α 100) (α 99) (qsh (α 87) 32) (σ 86 22) (σ 86 16) x2 x3 x6; omega)
  refine qr_icmp_ne 26 22 rfl rfl rfl (by omega) (by omega) (fun h3896 => ?_) (fun h3896 => ?_)
  · skip
    refine qr_iconst 27 rfl rfl ?_
    exact hJ24 _ 1 rfl rfl rfl rfl rfl rfl rfl rfl (by omega) (by have h1 := hp3; unfold qnF1; rw [if_pos (by omega)])
  · skip
    refine qr_iconst 23 rfl rfl ?_
    refine qr_goto 27 rfl rfl ?_
    exact hJ24 _ 0 rfl rfl rfl rfl rfl rfl rfl rfl (by omega) (by have h1 := hp3; unfold qnF1; rw [if_neg (by omega)])
