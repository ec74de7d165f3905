/-! stamps -/
def qSt (σ α : Nat → Nat → Int) : Prop := (∀ c : Nat, c < 496 → α 61 c ≤ σ 58 12) ∧ ∀ c : Nat, c < 496 → α 63 c ≤ σ 58 12
theorem qSt_c {σ α σ' α' : Nat → Nat → Int} (e : σ' 58 12 = σ 58 12) (e1 : α' 61 = α 61) (e3 : α' 63 = α 63) (h : qSt σ α) : qSt σ' α' := by
  unfold qSt
  rw [e, e1, e3]
  exact h
theorem qSt_fr {S : List (Nat × Nat)} {R : List Nat} {σ α σ' α' : Nat → Nat → Int} (hG : qFr S R σ α σ' α') (hs : [((58 : Nat), (12 : Nat))].all (fun x => !S.contains x) = true) (hr : [61, 63].all (fun x => !R.contains x) = true) (h : qSt σ α) : qSt σ' α' := by
  refine qSt_c (hG.1 58 12 (fun hn => ?_)) (hG.2 61 (fun hn => ?_)) (hG.2 63 (fun hn => ?_)) h
  · have h1 := List.all_eq_true.mp hs (58, 12) (by decide)
    rw [List.contains_iff_mem.mpr hn] at h1
    exact absurd h1 (by decide)
  · have h1 := List.all_eq_true.mp hr 61 (by decide)
    rw [List.contains_iff_mem.mpr hn] at h1
    exact absurd h1 (by decide)
  · have h1 := List.all_eq_true.mp hr 63 (by decide)
    rw [List.contains_iff_mem.mpr hn] at h1
    exact absurd h1 (by decide)
theorem qSt_u1 {σ α α' : Nat → Nat → Int} {c : Nat} {v : Int} (e : α' = qw_r α 61 (qzu (α 61) c v)) (hv : v ≤ σ 58 12) (h : qSt σ α) : qSt σ α' := by
  rw [e]
  refine ⟨fun k hk => ?_, fun k hk => ?_⟩
  · rw [qw_r_eq]
    show (if k = c then v else α 61 k) ≤ _
    split
    · exact hv
    · exact h.1 k hk
  · rw [qw_r_ne (by decide)]
    exact h.2 k hk
theorem qSt_u3 {σ α α' : Nat → Nat → Int} {c : Nat} {v : Int} (e : α' = qw_r α 63 (qzu (α 63) c v)) (hv : v ≤ σ 58 12) (h : qSt σ α) : qSt σ α' := by
  rw [e]
  refine ⟨fun k hk => ?_, fun k hk => ?_⟩
  · rw [qw_r_ne (by decide)]
    exact h.1 k hk
  · rw [qw_r_eq]
    show (if k = c then v else α 63 k) ≤ _
    split
    · exact hv
    · exact h.2 k hk
theorem qSt_o {σ α σ' : Nat → Nat → Int} (e : σ' 58 12 = σ 58 12 + 1) (h : qSt σ α) : qSt σ' α := by
  refine ⟨fun k hk => ?_, fun k hk => ?_⟩
  · have := h.1 k hk
    omega
  · have := h.2 k hk
    omega

set_option maxHeartbeats 4000000 in
set_option maxRecDepth 20000 in
/-- OneRoof$Moment.open -/
theorem sf_89_58s {L : Nat} {xs : Nat → Int} {vb : Bool} {d : Nat} {σ α : Nat → Nat → Int} {κ : Nat → Option Nat} {ρ : Nat} {x1 : Int} (hI : qI σ α κ ρ) (r1 : (-2147483648) ≤ x1 ∧ x1 ≤ 2147483647) (p0 : qSt σ α) (p1 : 0 ≤ σ 58 12 ∧ σ 58 12 ≤ 2000000000) : qm_T (qe L xs vb) (d + 1) 89 [.ref 58, .int (qz x1)] (qw σ α κ ρ) (fun r w' => ∃ σ', w' = qw σ' α κ ρ ∧ qI σ' α κ ρ ∧ qFr [(58, 11), (58, 12)] [] σ α σ' α ∧ σ' 58 12 = σ 58 12 + 1 ∧ r = none ∧ qSt σ' α) := by
  refine qr_start (d := d + 0) qv_e89 (Nat.le_of_ble_eq_true rfl) ?_
  show qr_W (qe L xs vb) (d + 0) qx_e89 _ (0, [(0, .ref 58), (1, .int (qz x1))], [], _, 0, 0)
  have hF0 := qFr_rf [(58, 11), (58, 12)] [] σ α
  have hz58_12 : (-2147483648) ≤ σ 58 12 ∧ σ 58 12 ≤ 2147483647 := hI.1 58 12
  refine qr_aload_n 1 rfl rfl rfl ?_
  refine qr_iload_n 2 rfl rfl rfl ?_
  refine qr_put 5 rfl (by decide) rfl (Nat.le_of_ble_eq_true rfl) (Nat.le_of_ble_eq_true rfl) (Or.inl rfl) (qr_fitI rfl _) rfl ?_
  refine qy_wS (qw_s σ 58 11 x1) rfl (fun σ1 e2 => ?_)
  have hI3 : qI σ1 α κ ρ := by rw [e2]; exact qI_s hI 58 11 rfl (show (-2147483648) ≤ x1 ∧ x1 ≤ 2147483647 by omega)
  have hF4 : qFr [(58, 11), (58, 12)] [] σ α σ1 α := by rw [e2]; exact qFr_s hF0 58 11 _ (by decide)
  refine qr_aload_n 6 rfl rfl rfl ?_
  refine qr_dup 7 rfl rfl rfl ?_
  refine qr_get 10 rfl rfl rfl (by decide) rfl ?_
  refine qy_v (σ 58 12) ((congrFun (congrFun e2 58) 12).trans rfl) ?_
  refine qr_iconst 11 rfl rfl ?_
  refine qr_iadd 12 rfl rfl ?_
  refine qr_put 15 rfl (by decide) rfl (Nat.le_of_ble_eq_true rfl) (Nat.le_of_ble_eq_true rfl) (Or.inl rfl) (qr_fitI rfl _) rfl ?_
  refine qy_wS (qw_s σ1 58 12 ((σ 58 12) + 1)) rfl (fun σ5 e6 => ?_)
  have hI7 : qI σ5 α κ ρ := by rw [e6]; exact qI_s hI3 58 12 rfl (show (-2147483648) ≤ ((σ 58 12) + 1) ∧ ((σ 58 12) + 1) ≤ 2147483647 by omega)
  have hF8 : qFr [(58, 11), (58, 12)] [] σ α σ5 α := by rw [e6]; exact qFr_s hF4 58 12 _ (by decide)
  refine qr_retV rfl rfl (by decide) (by decide) ?_
  exact ⟨_, rfl, hI7, hF8, (by have hw : σ5 58 12 = ((σ 58 12) + 1) := (congrFun (congrFun e6 58) 12).trans rfl; omega), rfl, (qSt_o (by have hw : σ5 58 12 = ((σ 58 12) + 1) := (congrFun (congrFun e6 58) 12).trans rfl; omega) p0)⟩

set_option maxHeartbeats 4000000 in
set_option maxRecDepth 20000 in
/-- OneRoof$Moment.nearKey -/
theorem sf_92_58s {L : Nat} {xs : Nat → Int} {vb : Bool} {d : Nat} {σ α : Nat → Nat → Int} {κ : Nat → Option Nat} {ρ : Nat} {x1 : Int} {x2 : Int} (hI : qI σ α κ ρ) (r1 : 0 ≤ x1 ∧ x1 ≤ 31) (r2 : 0 ≤ x2 ∧ x2 ≤ 31) (p0 : ¬ x1 = x2) (p1 : qSt σ α) : qm_T (qe L xs vb) (d + 3) 92 [.ref 58, .int (qz x1), .int (qz x2)] (qw σ α κ ρ) (fun r w' => ∃ α', w' = qw σ α' κ ρ ∧ qI σ α' κ ρ ∧ qFr [] [60, 61] σ α σ α' ∧ ∃ v : Int, r = some (.int (qz v)) ∧ (0 ≤ v ∧ v ≤ 576) ∧ qSt σ α') := by
  refine qr_start (d := d + 2) qv_e92 (Nat.le_of_ble_eq_true rfl) ?_
  show qr_W (qe L xs vb) (d + 2) qx_e92 _ (0, [(0, .ref 58), (1, .int (qz x1)), (2, .int (qz x2))], [], _, 0, 0)
  have hF0 := qFr_rf [] [60, 61] σ α
  refine qr_iload_n 1 rfl rfl rfl ?_
  refine qr_iload_n 2 rfl rfl rfl ?_
  refine qr_callN 5 rfl rfl rfl (sf_93 (d := d + 0) hI r1 r2 (by omega)) ?_
  rintro _ _ ⟨rfl, v1, rfl, hv1⟩
  show qr_W (qe L xs vb) (d + 2) qx_e92 _ (5, _, [.int (qz v1)], qw σ α κ ρ, 0, 0)
  refine qr_istore_n _ 6 rfl (by decide) rfl rfl ?_
  refine qr_aload_n 7 rfl rfl rfl ?_
  refine qr_get 10 rfl rfl rfl (by decide) rfl ?_
  refine qr_iload_n 11 rfl rfl rfl ?_
  refine qr_iaload 12 rfl rfl (qrgi hv1 (by decide) (by decide)) (by decide) rfl ?_
  refine qr_topI (fun v2 hv2 => ?_)
  have hs3 : (-2147483648) ≤ v2 ∧ v2 ≤ 2147483647 := by rw [hv2]; exact hI.2.1 61 _ (show _ < 496 from qrgt hv1 (by decide) (by decide))
  refine qr_aload_n 13 rfl rfl rfl ?_
  refine qr_get 16 rfl rfl rfl (by decide) rfl ?_
  have hs4 : (-2147483648) ≤ σ 58 12 ∧ σ 58 12 ≤ 2147483647 := hI.1 58 12
  refine qr_icmp_eq 52 19 rfl rfl rfl hs3 hs4 (fun h5 => ?_) (fun h5 => ?_)
  · skip
    refine qr_aload_n 53 rfl rfl rfl ?_
    refine qr_get 56 rfl rfl rfl (by decide) rfl ?_
    refine qr_iload_n 57 rfl rfl rfl ?_
    refine qr_iaload 58 rfl rfl (qrgi hv1 (by decide) (by decide)) (by decide) rfl ?_
    refine qr_topI (fun v6 hv6 => ?_)
    have hs7 : 0 ≤ v6 ∧ v6 ≤ 576 := by rw [hv6]; exact hI.2.1 60 _ (show _ < 496 from qrgt hv1 (by decide) (by decide))
    refine qr_retI rfl rfl (by decide) (by decide) ?_
    exact ⟨_, rfl, hI, hF0, v6, rfl, hs7, p1⟩
  · skip
    refine qr_aload_n 20 rfl rfl rfl ?_
    refine qr_get 23 rfl rfl rfl (by decide) rfl ?_
    refine qr_iload_n 24 rfl rfl rfl ?_
    refine qr_aload_n 25 rfl rfl rfl ?_
    refine qr_get 28 rfl rfl rfl (by decide) rfl ?_
    refine qr_iastore 29 rfl (by decide) rfl (qrgi hv1 (by decide) (by decide)) (by decide) rfl ?_
    refine qy_wA (qw_r α 61 (qzu (α 61) (v1 : Int).toNat (σ 58 12))) rfl (fun α8 e9 => ?_)
    have hI10 : qI σ α8 κ ρ := by rw [e9]; exact qI_r hI 61 _ rfl (show (-2147483648) ≤ (σ 58 12) ∧ (σ 58 12) ≤ 2147483647 by omega)
    have hF11 : qFr [] [60, 61] σ α σ α8 := by rw [e9]; exact qFr_r hF0 61 _ (by decide)
    have hy12 := qSt_u1 (v := (σ 58 12)) e9 (by omega) p1
    refine qr_aload_n 30 rfl rfl rfl ?_
    refine qr_get 33 rfl rfl rfl (by decide) rfl ?_
    refine qr_iload_n 34 rfl rfl rfl ?_
    refine qr_aload_n 35 rfl rfl rfl ?_
    refine qr_get 38 rfl rfl rfl (by decide) rfl ?_
    refine qr_iload_n 39 rfl rfl rfl ?_
    refine qr_iload_n 40 rfl rfl rfl ?_
    refine qr_aload_n 41 rfl rfl rfl ?_
    refine qr_get 44 rfl rfl rfl (by decide) rfl ?_
    have hs13 : (-2147483648) ≤ σ 58 11 ∧ σ 58 11 ≤ 2147483647 := hI10.1 58 11
    refine qr_aload_n 45 rfl rfl rfl ?_
    refine qr_get 48 rfl rfl rfl (by decide) rfl ?_
    refine qr_callN 51 rfl rfl rfl (sf_66_27_23 (d := d + 0) hI10 r1 r2 hs13) ?_
    rintro _ _ ⟨rfl, v14, rfl, hv14⟩
    show qr_W (qe L xs vb) (d + 2) qx_e92 _ (51, _, [.int (qz v14), .int (qz v1), .ref 60], qw σ α8 κ ρ, 0, 0)
    refine qr_iastore 52 rfl (by decide) rfl (qrgi hv1 (by decide) (by decide)) (by decide) rfl ?_
    refine qy_wA (qw_r α8 60 (qzu (α8 60) (v1 : Int).toNat v14)) rfl (fun α15 e16 => ?_)
    have hI17 : qI σ α15 κ ρ := by rw [e16]; exact qI_r hI10 60 _ rfl (show 0 ≤ v14 ∧ v14 ≤ 576 by omega)
    have hF18 : qFr [] [60, 61] σ α σ α15 := by rw [e16]; exact qFr_r hF11 60 _ (by decide)
    have hy19 : qSt σ α15 := qSt_c rfl (by rw [e16]; exact qw_r_ne (by decide)) (by rw [e16]; exact qw_r_ne (by decide)) hy12
    refine qr_aload_n 53 rfl rfl rfl ?_
    refine qr_get 56 rfl rfl rfl (by decide) rfl ?_
    refine qr_iload_n 57 rfl rfl rfl ?_
    refine qr_iaload 58 rfl rfl (qrgi hv1 (by decide) (by decide)) (by decide) rfl ?_
    refine qr_topI (fun v20 hv20 => ?_)
    have hs21 : 0 ≤ v20 ∧ v20 ≤ 576 := by rw [hv20]; exact hI17.2.1 60 _ (show _ < 496 from qrgt hv1 (by decide) (by decide))
    refine qr_retI rfl rfl (by decide) (by decide) ?_
    exact ⟨_, rfl, hI17, hF18, v20, rfl, hs21, hy19⟩

set_option maxHeartbeats 4000000 in
set_option maxRecDepth 20000 in
/-- OneRoof$Moment.held -/
theorem sf_94_58s {L : Nat} {xs : Nat → Int} {vb : Bool} {d : Nat} {σ α : Nat → Nat → Int} {κ : Nat → Option Nat} {ρ : Nat} {x1 : Int} {x2 : Int} (hI : qI σ α κ ρ) (r1 : 0 ≤ x1 ∧ x1 ≤ 31) (r2 : 0 ≤ x2 ∧ x2 ≤ 31) (p0 : ¬ x1 = x2) (p1 : qSt σ α) : qm_T (qe L xs vb) (d + 3) 94 [.ref 58, .int (qz x1), .int (qz x2)] (qw σ α κ ρ) (fun r w' => ∃ α', w' = qw σ α' κ ρ ∧ qI σ α' κ ρ ∧ qFr [] [62, 63] σ α σ α' ∧ ∃ v : Int, r = some (.long (ql v)) ∧ ((-9223372036854775808) ≤ v ∧ v ≤ 9223372036854775807) ∧ qSt σ α') := by
  refine qr_start (d := d + 2) qv_e94 (Nat.le_of_ble_eq_true rfl) ?_
  show qr_W (qe L xs vb) (d + 2) qx_e94 _ (0, [(0, .ref 58), (1, .int (qz x1)), (2, .int (qz x2))], [], _, 0, 0)
  have hF0 := qFr_rf [] [62, 63] σ α
  refine qr_iload_n 1 rfl rfl rfl ?_
  refine qr_iload_n 2 rfl rfl rfl ?_
  refine qr_callN 5 rfl rfl rfl (sf_93 (d := d + 0) hI r1 r2 (by omega)) ?_
  rintro _ _ ⟨rfl, v1, rfl, hv1⟩
  show qr_W (qe L xs vb) (d + 2) qx_e94 _ (5, _, [.int (qz v1)], qw σ α κ ρ, 0, 0)
  refine qr_istore_n _ 6 rfl (by decide) rfl rfl ?_
  refine qr_aload_n 7 rfl rfl rfl ?_
  refine qr_get 10 rfl rfl rfl (by decide) rfl ?_
  refine qr_iload_n 11 rfl rfl rfl ?_
  refine qr_iaload 12 rfl rfl (qrgi hv1 (by decide) (by decide)) (by decide) rfl ?_
  refine qr_topI (fun v2 hv2 => ?_)
  have hs3 : (-2147483648) ≤ v2 ∧ v2 ≤ 2147483647 := by rw [hv2]; exact hI.2.1 63 _ (show _ < 496 from qrgt hv1 (by decide) (by decide))
  refine qr_aload_n 13 rfl rfl rfl ?_
  refine qr_get 16 rfl rfl rfl (by decide) rfl ?_
  have hs4 : (-2147483648) ≤ σ 58 12 ∧ σ 58 12 ≤ 2147483647 := hI.1 58 12
  have hJ24 : ∀ (ls : qm_L) (α20 : Nat → Nat → Int), qm_get ls 0 = some (.ref 58) → qm_get ls 3 = some (.int (qz v1)) → qI σ α20 κ ρ → qFr [] [62, 63] σ α σ α20 → qSt σ α20 → qr_W (qe L xs vb) (d + 2) qx_e94 (fun r w' => ∃ α', w' = qw σ α' κ ρ ∧ qI σ α' κ ρ ∧ qFr [] [62, 63] σ α σ α' ∧ ∃ v : Int, r = some (.long (ql v)) ∧ ((-9223372036854775808) ≤ v ∧ v ≤ 9223372036854775807) ∧ qSt σ α') (52, ls, [], qw σ α20 κ ρ, 0, 0) := by
    intro ls α20 g17 g18 hI21 hF22 hx23
    refine qr_aload_n 53 rfl g17 rfl ?_
    refine qr_get 56 rfl rfl rfl (by decide) rfl ?_
    refine qr_iload_n 57 rfl g18 rfl ?_
    refine qr_laload 58 rfl (by decide) rfl (qrgi hv1 (by decide) (by decide)) (by decide) rfl ?_
    refine qr_topL (fun v25 hv25 => ?_)
    have hs26 : (-9223372036854775808) ≤ v25 ∧ v25 ≤ 9223372036854775807 := by rw [hv25]; exact hI21.2.1 62 _ (show _ < 496 from qrgt hv1 (by decide) (by decide))
    refine qr_aload_n 59 rfl g17 rfl ?_
    refine qr_get 62 rfl rfl rfl (by decide) rfl ?_
    have hs27 : (-9223372036854775808) ≤ σ 58 10 ∧ σ 58 10 ≤ 9223372036854775807 := hI21.1 58 10
    refine qr_ldc2 (-1) 65 rfl (by decide) rfl ?_
    refine qr_lxor 66 rfl rfl ?_
    refine qy_canl (fun v28 hv28 => ?_)
    refine qr_land 67 rfl rfl ?_
    refine qy_canl (fun v29 hv29 => ?_)
    refine qr_retL rfl rfl (by decide) (by decide) ?_
    exact ⟨_, rfl, hI21, hF22, v29, rfl, hv29, hx23⟩
  refine qr_icmp_eq 52 19 rfl rfl rfl hs3 hs4 (fun h30 => ?_) (fun h30 => ?_)
  · skip
    exact hJ24 _ α rfl rfl hI hF0 p1
  · skip
    refine qr_aload_n 20 rfl rfl rfl ?_
    refine qr_get 23 rfl rfl rfl (by decide) rfl ?_
    refine qr_iload_n 24 rfl rfl rfl ?_
    refine qr_aload_n 25 rfl rfl rfl ?_
    refine qr_get 28 rfl rfl rfl (by decide) rfl ?_
    refine qr_iastore 29 rfl (by decide) rfl (qrgi hv1 (by decide) (by decide)) (by decide) rfl ?_
    refine qy_wA (qw_r α 63 (qzu (α 63) (v1 : Int).toNat (σ 58 12))) rfl (fun α31 e32 => ?_)
    have hI33 : qI σ α31 κ ρ := by rw [e32]; exact qI_r hI 63 _ rfl (show (-2147483648) ≤ (σ 58 12) ∧ (σ 58 12) ≤ 2147483647 by omega)
    have hF34 : qFr [] [62, 63] σ α σ α31 := by rw [e32]; exact qFr_r hF0 63 _ (by decide)
    have hy35 := qSt_u3 (v := (σ 58 12)) e32 (by omega) p1
    refine qr_aload_n 30 rfl rfl rfl ?_
    refine qr_get 33 rfl rfl rfl (by decide) rfl ?_
    refine qr_iload_n 34 rfl rfl rfl ?_
    refine qr_aload_n 35 rfl rfl rfl ?_
    refine qr_get 38 rfl rfl rfl (by decide) rfl ?_
    refine qr_iload_n 39 rfl rfl rfl ?_
    refine qr_iload_n 40 rfl rfl rfl ?_
    refine qr_aload_n 41 rfl rfl rfl ?_
    refine qr_get 44 rfl rfl rfl (by decide) rfl ?_
    have hs36 : (-2147483648) ≤ σ 58 11 ∧ σ 58 11 ≤ 2147483647 := hI33.1 58 11
    refine qr_aload_n 45 rfl rfl rfl ?_
    refine qr_get 48 rfl rfl rfl (by decide) rfl ?_
    refine qr_callN 51 rfl rfl rfl (sf_80_34_17 (d := d + 0) hI33 r1 r2 hs36) ?_
    rintro _ _ ⟨rfl, v37, rfl, hv37⟩
    show qr_W (qe L xs vb) (d + 2) qx_e94 _ (51, _, [.long (ql v37), .int (qz v1), .ref 62], qw σ α31 κ ρ, 0, 0)
    refine qr_lastore 52 rfl (by decide) rfl (qrgi hv1 (by decide) (by decide)) (by decide) rfl ?_
    refine qy_wA (qw_r α31 62 (qzu (α31 62) (v1 : Int).toNat v37)) rfl (fun α38 e39 => ?_)
    have hI40 : qI σ α38 κ ρ := by rw [e39]; exact qI_r hI33 62 _ rfl (show (-9223372036854775808) ≤ v37 ∧ v37 ≤ 9223372036854775807 by omega)
    have hF41 : qFr [] [62, 63] σ α σ α38 := by rw [e39]; exact qFr_r hF34 62 _ (by decide)
    have hy42 : qSt σ α38 := qSt_c rfl (by rw [e39]; exact qw_r_ne (by decide)) (by rw [e39]; exact qw_r_ne (by decide)) hy35
    exact hJ24 _ α38 rfl rfl hI40 hF41 hy42

set_option maxHeartbeats 4000000 in
set_option maxRecDepth 20000 in
/-- OneRoof$Moment.weigh -/
theorem sf_90_58s {L : Nat} {xs : Nat → Int} {vb : Bool} {d : Nat} {σ α : Nat → Nat → Int} {κ : Nat → Option Nat} {ρ : Nat} {x1 : Int} {x2 : Int} {x3 : Int} {x4 : Int} {x5 : Int} (hI : qI σ α κ ρ) (r1 : 0 ≤ x1 ∧ x1 ≤ 1) (r2 : 0 ≤ x2 ∧ x2 ≤ 31) (r3 : 0 ≤ x3 ∧ x3 ≤ 31) (r4 : (-1) ≤ x4 ∧ x4 ≤ 31) (r5 : (-9223372036854775808) ≤ x5 ∧ x5 ≤ 9223372036854775807) (p0 : ¬ x2 = x3) (p1 : qSt σ α) : qm_T (qe L xs vb) (d + 4) 90 [.ref 58, .int (qz x1), .int (qz x2), .int (qz x3), .int (qz x4), .long (ql x5)] (qw σ α κ ρ) (fun r w' => ∃ α', w' = qw σ α' κ ρ ∧ qI σ α' κ ρ ∧ qFr [] [53, 57, 59, 60, 61, 62, 63, 85] σ α σ α' ∧ ∃ v : Int, r = some (.int (qz v)) ∧ ((-2147483648) ≤ v ∧ v ≤ 2147483647) ∧ qSt σ α') := by
  refine qr_start (d := d + 3) qv_e90 (Nat.le_of_ble_eq_true rfl) ?_
  show qr_W (qe L xs vb) (d + 3) qx_e90 _ (0, [(0, .ref 58), (1, .int (qz x1)), (2, .int (qz x2)), (3, .int (qz x3)), (4, .int (qz x4)), (5, .long (ql x5))], [], _, 0, 0)
  have hF0 := qFr_rf [] [53, 57, 59, 60, 61, 62, 63, 85] σ α
  refine qr_aload_n 1 rfl rfl rfl ?_
  refine qr_get 4 rfl rfl rfl (by decide) rfl ?_
  refine qr_iload_n 5 rfl rfl rfl ?_
  obtain ⟨c1, hc2, hq3⟩ := qI_k hI (y := x1) (by omega)
  refine qr_aaload 6 rfl (by decide) rfl (by omega) (by decide) hc2 rfl ?_
  rcases hq3 with rfl | rfl | rfl
  · skip
    refine qr_astore _ 8 rfl (by decide) rfl rfl ?_
    refine qr_aload 10 rfl rfl rfl ?_
    refine qr_iconst 11 rfl rfl ?_
    refine qr_callN 14 rfl rfl rfl (sf_91_50 (d := d + 1) hI (by decide)) ?_
    rintro _ _ ⟨rfl, v4, rfl, hv4⟩
    show qr_W (qe L xs vb) (d + 3) qx_e90 _ (14, _, [.int (qz v4)], qw σ α κ ρ, 0, 0)
    have hJ65 : ∀ (ls : qm_L) (α61 : Nat → Nat → Int), qm_get ls 0 = some (.ref 58) → qm_get ls 2 = some (.int (qz x2)) → qm_get ls 3 = some (.int (qz x3)) → qm_get ls 4 = some (.int (qz x4)) → qm_get ls 5 = some (.long (ql x5)) → qm_get ls 7 = some (.ref 50) → qI σ α61 κ ρ → qFr [] [53, 57, 59, 60, 61, 62, 63, 85] σ α σ α61 → qSt σ α61 → qr_W (qe L xs vb) (d + 3) qx_e90 (fun r w' => ∃ α', w' = qw σ α' κ ρ ∧ qI σ α' κ ρ ∧ qFr [] [53, 57, 59, 60, 61, 62, 63, 85] σ α σ α' ∧ ∃ v : Int, r = some (.int (qz v)) ∧ ((-2147483648) ≤ v ∧ v ≤ 2147483647) ∧ qSt σ α') (63, ls, [], qw σ α61 κ ρ, 0, 0) := by
      intro ls α61 g54 g55 g56 g57 g58 g59 hI62 hF63 hx64
      refine qr_aload 65 rfl g59 rfl ?_
      refine qr_iconst 66 rfl rfl ?_
      refine qr_callN 69 rfl rfl rfl (sf_91_50 (d := d + 1) hI62 (by decide)) ?_
      rintro _ _ ⟨rfl, v66, rfl, hv66⟩
      show qr_W (qe L xs vb) (d + 3) qx_e90 _ (69, _, [.int (qz v66)], qw σ α61 κ ρ, 0, 0)
      have hJ90 : ∀ (ls : qm_L) (α86 : Nat → Nat → Int), qm_get ls 0 = some (.ref 58) → qm_get ls 2 = some (.int (qz x2)) → qm_get ls 3 = some (.int (qz x3)) → qm_get ls 4 = some (.int (qz x4)) → qm_get ls 5 = some (.long (ql x5)) → qm_get ls 7 = some (.ref 50) → qI σ α86 κ ρ → qFr [] [53, 57, 59, 60, 61, 62, 63, 85] σ α σ α86 → qSt σ α86 → qr_W (qe L xs vb) (d + 3) qx_e90 (fun r w' => ∃ α', w' = qw σ α' κ ρ ∧ qI σ α' κ ρ ∧ qFr [] [53, 57, 59, 60, 61, 62, 63, 85] σ α σ α' ∧ ∃ v : Int, r = some (.int (qz v)) ∧ ((-2147483648) ≤ v ∧ v ≤ 2147483647) ∧ qSt σ α') (87, ls, [], qw σ α86 κ ρ, 0, 0) := by
        intro ls α86 g79 g80 g81 g82 g83 g84 hI87 hF88 hx89
        refine qr_aload 89 rfl g84 rfl ?_
        refine qr_bipush 91 rfl (by decide) rfl ?_
        refine qr_callN 94 rfl rfl rfl (sf_91_50 (d := d + 1) hI87 (by decide)) ?_
        rintro _ _ ⟨rfl, v91, rfl, hv91⟩
        show qr_W (qe L xs vb) (d + 3) qx_e90 _ (94, _, [.int (qz v91)], qw σ α86 κ ρ, 0, 0)
        have hJ108 : ∀ (ls : qm_L) (α104 : Nat → Nat → Int), qm_get ls 0 = some (.ref 58) → qm_get ls 2 = some (.int (qz x2)) → qm_get ls 3 = some (.int (qz x3)) → qm_get ls 4 = some (.int (qz x4)) → qm_get ls 7 = some (.ref 50) → qI σ α104 κ ρ → qFr [] [53, 57, 59, 60, 61, 62, 63, 85] σ α σ α104 → qSt σ α104 → qr_W (qe L xs vb) (d + 3) qx_e90 (fun r w' => ∃ α', w' = qw σ α' κ ρ ∧ qI σ α' κ ρ ∧ qFr [] [53, 57, 59, 60, 61, 62, 63, 85] σ α σ α' ∧ ∃ v : Int, r = some (.int (qz v)) ∧ ((-2147483648) ≤ v ∧ v ≤ 2147483647) ∧ qSt σ α') (114, ls, [], qw σ α104 κ ρ, 0, 0) := by
          intro ls α104 g98 g99 g100 g101 g102 hI105 hF106 hx107
          refine qr_aload_n 115 rfl g98 rfl ?_
          refine qr_get 118 rfl rfl rfl (by decide) rfl ?_
          refine qr_iconst 119 rfl rfl ?_
          refine qr_aload_n 120 rfl g98 rfl ?_
          refine qr_get 123 rfl rfl rfl (by decide) rfl ?_
          refine qr_get 126 rfl rfl rfl (by decide) rfl ?_
          refine qr_iload_n 127 rfl g99 rfl ?_
          refine qr_iaload 128 rfl rfl (qrgi r2 (by decide) (by decide)) (by decide) rfl ?_
          refine qr_topI (fun v109 hv109 => ?_)
          have hs110 : (-2147483648) ≤ v109 ∧ v109 ≤ 2147483647 := by rw [hv109]; exact hI105.2.1 20 _ (show _ < 32 from qrgt r2 (by decide) (by decide))
          refine qr_iastore 129 rfl (by decide) rfl (by decide) (by decide) rfl ?_
          refine qy_wA (qw_r α104 59 (qzu (α104 59) (3 : Int).toNat v109)) rfl (fun α111 e112 => ?_)
          have hI113 : qI σ α111 κ ρ := by rw [e112]; exact qI_r hI105 59 _ rfl (show (-2147483648) ≤ v109 ∧ v109 ≤ 2147483647 by omega)
          have hF114 : qFr [] [53, 57, 59, 60, 61, 62, 63, 85] σ α σ α111 := by rw [e112]; exact qFr_r hF106 59 _ (by decide)
          have hy115 : qSt σ α111 := qSt_c rfl (by rw [e112]; exact qw_r_ne (by decide)) (by rw [e112]; exact qw_r_ne (by decide)) hx107
          refine qr_aload_n 130 rfl g98 rfl ?_
          refine qr_get 133 rfl rfl rfl (by decide) rfl ?_
          refine qr_iconst 134 rfl rfl ?_
          refine qr_aload_n 135 rfl g98 rfl ?_
          refine qr_get 138 rfl rfl rfl (by decide) rfl ?_
          refine qr_get 141 rfl rfl rfl (by decide) rfl ?_
          refine qr_iload_n 142 rfl g100 rfl ?_
          refine qr_iaload 143 rfl rfl (qrgi r3 (by decide) (by decide)) (by decide) rfl ?_
          refine qr_topI (fun v116 hv116 => ?_)
          have hs117 : (-2147483648) ≤ v116 ∧ v116 ≤ 2147483647 := by rw [hv116]; exact hI113.2.1 20 _ (show _ < 32 from qrgt r3 (by decide) (by decide))
          refine qr_iastore 144 rfl (by decide) rfl (by decide) (by decide) rfl ?_
          refine qy_wA (qw_r α111 59 (qzu (α111 59) (4 : Int).toNat v116)) rfl (fun α118 e119 => ?_)
          have hI120 : qI σ α118 κ ρ := by rw [e119]; exact qI_r hI113 59 _ rfl (show (-2147483648) ≤ v116 ∧ v116 ≤ 2147483647 by omega)
          have hF121 : qFr [] [53, 57, 59, 60, 61, 62, 63, 85] σ α σ α118 := by rw [e119]; exact qFr_r hF114 59 _ (by decide)
          have hy122 : qSt σ α118 := qSt_c rfl (by rw [e119]; exact qw_r_ne (by decide)) (by rw [e119]; exact qw_r_ne (by decide)) hy115
          refine qr_aload_n 145 rfl g98 rfl ?_
          refine qr_get 148 rfl rfl rfl (by decide) rfl ?_
          refine qr_iconst 149 rfl rfl ?_
          refine qr_aload_n 150 rfl g98 rfl ?_
          refine qr_get 153 rfl rfl rfl (by decide) rfl ?_
          refine qr_get 156 rfl rfl rfl (by decide) rfl ?_
          refine qr_iload_n 157 rfl g99 rfl ?_
          refine qr_laload 158 rfl (by decide) rfl (qrgi r2 (by decide) (by decide)) (by decide) rfl ?_
          refine qr_topL (fun v123 hv123 => ?_)
          have hs124 : (-9223372036854775808) ≤ v123 ∧ v123 ≤ 9223372036854775807 := by rw [hv123]; exact hI120.2.1 22 _ (show _ < 32 from qrgt r2 (by decide) (by decide))
          refine qr_iload_n 159 rfl g100 rfl ?_
          refine qr_callN 162 rfl rfl rfl (sf_50 (d := d + 2) hI120 hs124 (qrg r3 (by decide) (by decide))) ?_
          rintro _ _ ⟨rfl, v125, rfl, hv125⟩
          show qr_W (qe L xs vb) (d + 3) qx_e90 _ (162, _, [.int (qz v125), .int (qz 5), .ref 59], qw σ α118 κ ρ, 0, 0)
          have hJ133 : ∀ (ls : qm_L) (u131 : Int), qm_get ls 0 = some (.ref 58) → qm_get ls 2 = some (.int (qz x2)) → qm_get ls 3 = some (.int (qz x3)) → qm_get ls 4 = some (.int (qz x4)) → qm_get ls 7 = some (.ref 50) → (0 ≤ u131 ∧ u131 ≤ 1) → qr_W (qe L xs vb) (d + 3) qx_e90 (fun r w' => ∃ α', w' = qw σ α' κ ρ ∧ qI σ α' κ ρ ∧ qFr [] [53, 57, 59, 60, 61, 62, 63, 85] σ α σ α' ∧ ∃ v : Int, r = some (.int (qz v)) ∧ ((-2147483648) ≤ v ∧ v ≤ 2147483647) ∧ qSt σ α') (170, ls, [.int (qz u131), .int (qz 5), .ref 59], qw σ α118 κ ρ, 0, 0) := by
            intro ls u131 g126 g127 g128 g129 g130 hf132
            refine qr_iastore 171 rfl (by decide) rfl (by decide) (by decide) rfl ?_
            refine qy_wA (qw_r α118 59 (qzu (α118 59) (5 : Int).toNat u131)) rfl (fun α134 e135 => ?_)
            have hI136 : qI σ α134 κ ρ := by rw [e135]; exact qI_r hI120 59 _ rfl (show (-2147483648) ≤ u131 ∧ u131 ≤ 2147483647 by omega)
            have hF137 : qFr [] [53, 57, 59, 60, 61, 62, 63, 85] σ α σ α134 := by rw [e135]; exact qFr_r hF121 59 _ (by decide)
            have hy138 : qSt σ α134 := qSt_c rfl (by rw [e135]; exact qw_r_ne (by decide)) (by rw [e135]; exact qw_r_ne (by decide)) hy122
            refine qr_aload_n 172 rfl g126 rfl ?_
            refine qr_get 175 rfl rfl rfl (by decide) rfl ?_
            refine qr_bipush 177 rfl (by decide) rfl ?_
            refine qr_aload_n 178 rfl g126 rfl ?_
            refine qr_get 181 rfl rfl rfl (by decide) rfl ?_
            refine qr_iload_n 182 rfl g127 rfl ?_
            refine qr_iload_n 183 rfl g128 rfl ?_
            refine qr_callN 186 rfl rfl rfl (sf_57_23 (d := d + 2) hI136 r2 r3) ?_
            rintro _ _ ⟨rfl, v139, rfl, hv139⟩
            show qr_W (qe L xs vb) (d + 3) qx_e90 _ (186, _, [.int (qz v139), .int (qz 6), .ref 59], qw σ α134 κ ρ, 0, 0)
            refine qr_bipush 188 rfl (by decide) rfl ?_
            refine qr_callN 191 rfl rfl rfl (sf_12 (d := d + 2) hI136 (qrg hv139 (by decide) (by decide)) (by decide)) ?_
            rintro _ _ ⟨rfl, v140, rfl, hv140, hp141⟩
            show qr_W (qe L xs vb) (d + 3) qx_e90 _ (191, _, [.int (qz v140), .int (qz 6), .ref 59], qw σ α134 κ ρ, 0, 0)
            refine qr_iastore 192 rfl (by decide) rfl (by decide) (by decide) rfl ?_
            refine qy_wA (qw_r α134 59 (qzu (α134 59) (6 : Int).toNat v140)) rfl (fun α142 e143 => ?_)
            have hI144 : qI σ α142 κ ρ := by rw [e143]; exact qI_r hI136 59 _ rfl (show (-2147483648) ≤ v140 ∧ v140 ≤ 2147483647 by omega)
            have hF145 : qFr [] [53, 57, 59, 60, 61, 62, 63, 85] σ α σ α142 := by rw [e143]; exact qFr_r hF137 59 _ (by decide)
            have hy146 : qSt σ α142 := qSt_c rfl (by rw [e143]; exact qw_r_ne (by decide)) (by rw [e143]; exact qw_r_ne (by decide)) hy138
            refine qr_aload_n 193 rfl g126 rfl ?_
            refine qr_get 196 rfl rfl rfl (by decide) rfl ?_
            refine qr_bipush 198 rfl (by decide) rfl ?_
            refine qr_iload 200 rfl g129 rfl ?_
            refine qr_iconst 201 rfl rfl ?_
            have hJ154 : ∀ (ls : qm_L) (u152 : Int), qm_get ls 0 = some (.ref 58) → qm_get ls 7 = some (.ref 50) → (0 ≤ u152 ∧ u152 ≤ 9) → qr_W (qe L xs vb) (d + 3) qx_e90 (fun r w' => ∃ α', w' = qw σ α' κ ρ ∧ qI σ α' κ ρ ∧ qFr [] [53, 57, 59, 60, 61, 62, 63, 85] σ α σ α' ∧ ∃ v : Int, r = some (.int (qz v)) ∧ ((-2147483648) ≤ v ∧ v ≤ 2147483647) ∧ qSt σ α') (223, ls, [.int (qz u152), .int (qz 8), .ref 59], qw σ α142 κ ρ, 0, 0) := by
              intro ls u152 g150 g151 hf153
              refine qr_iastore 224 rfl (by decide) rfl (by decide) (by decide) rfl ?_
              refine qy_wA (qw_r α142 59 (qzu (α142 59) (8 : Int).toNat u152)) rfl (fun α155 e156 => ?_)
              have hI157 : qI σ α155 κ ρ := by rw [e156]; exact qI_r hI144 59 _ rfl (show (-2147483648) ≤ u152 ∧ u152 ≤ 2147483647 by omega)
              have hF158 : qFr [] [53, 57, 59, 60, 61, 62, 63, 85] σ α σ α155 := by rw [e156]; exact qFr_r hF145 59 _ (by decide)
              have hy159 : qSt σ α155 := qSt_c rfl (by rw [e156]; exact qw_r_ne (by decide)) (by rw [e156]; exact qw_r_ne (by decide)) hy146
              refine qr_aload 226 rfl g151 rfl ?_
              refine qr_aload_n 227 rfl g150 rfl ?_
              refine qr_get 230 rfl rfl rfl (by decide) rfl ?_
              refine qr_callN 233 rfl rfl rfl (sf_97_50_59 (d := d + 1) hI157 ) ?_
              rintro _ _ ⟨α161, rfl, hI162, hG163, v160, rfl, hv160⟩
              have hF164 : qFr [] [53, 57, 59, 60, 61, 62, 63, 85] σ α σ α161 := qFr_t hF158 hG163 (by decide) (by decide)
              have hy165 := qSt_fr hG163 (by decide) (by decide) hy159
              show qr_W (qe L xs vb) (d + 3) qx_e90 _ (233, _, [.int (qz v160)], qw σ α161 κ ρ, 0, 0)
              refine qr_retI rfl rfl (by decide) (by decide) ?_
              exact ⟨_, rfl, hI162, hF164, v160, rfl, hv160, hy165⟩
            refine qr_icmp_ne 208 204 rfl rfl rfl (qrg r4 (by decide) (by decide)) (by decide) (fun h166 => ?_) (fun h166 => ?_)
            · skip
              refine qr_aload_n 209 rfl g126 rfl ?_
              refine qr_get 212 rfl rfl rfl (by decide) rfl ?_
              refine qr_iload_n 213 rfl g127 rfl ?_
              refine qr_iload 215 rfl g129 rfl ?_
              refine qr_callN 218 rfl rfl rfl (sf_57_23 (d := d + 2) hI144 r2 (by omega)) ?_
              rintro _ _ ⟨rfl, v167, rfl, hv167⟩
              show qr_W (qe L xs vb) (d + 3) qx_e90 _ (218, _, [.int (qz v167), .int (qz 8), .ref 59], qw σ α142 κ ρ, 0, 0)
              refine qr_bipush 220 rfl (by decide) rfl ?_
              refine qr_callN 223 rfl rfl rfl (sf_12 (d := d + 2) hI144 (qrg hv167 (by decide) (by decide)) (by decide)) ?_
              rintro _ _ ⟨rfl, v168, rfl, hv168, hp169⟩
              show qr_W (qe L xs vb) (d + 3) qx_e90 _ (223, _, [.int (qz v168), .int (qz 8), .ref 59], qw σ α142 κ ρ, 0, 0)
              exact hJ154 _ v168 g126 g130 (by omega)
            · skip
              refine qr_iconst 205 rfl rfl ?_
              refine qr_goto 223 rfl rfl ?_
              exact hJ154 _ 0 g126 g130 (by decide)
          refine qr_if_eq 169 165 rfl rfl rfl (qrg hv125 (by decide) (by decide)) (fun h170 => ?_) (fun h170 => ?_)
          · skip
            refine qr_iconst 170 rfl rfl ?_
            exact hJ133 _ 0 g98 g99 g100 g101 g102 (by decide)
          · skip
            refine qr_iconst 166 rfl rfl ?_
            refine qr_goto 170 rfl rfl ?_
            exact hJ133 _ 1 g98 g99 g100 g101 g102 (by decide)
        refine qr_if_eq 114 97 rfl rfl rfl (qrg hv91 (by decide) (by decide)) (fun h171 => ?_) (fun h171 => ?_)
        · skip
          exact hJ108 _ α86 g79 g80 g81 g82 g84 hI87 hF88 hx89
        · skip
          refine qr_aload_n 98 rfl g79 rfl ?_
          refine qr_get 101 rfl rfl rfl (by decide) rfl ?_
          refine qr_bipush 103 rfl (by decide) rfl ?_
          refine qr_aload_n 104 rfl g79 rfl ?_
          refine qr_get 107 rfl rfl rfl (by decide) rfl ?_
          refine qr_iload_n 108 rfl g80 rfl ?_
          refine qr_lload 110 rfl g83 rfl ?_
          refine qr_callN 113 rfl rfl rfl (sf_95_17 (d := d + 1) hI87 r2 r5) ?_
          rintro _ _ ⟨rfl, v172, rfl, hv172⟩
          show qr_W (qe L xs vb) (d + 3) qx_e90 _ (113, _, [.int (qz v172), .int (qz 7), .ref 59], qw σ α86 κ ρ, 0, 0)
          refine qr_iastore 114 rfl (by decide) rfl (by decide) (by decide) rfl ?_
          refine qy_wA (qw_r α86 59 (qzu (α86 59) (7 : Int).toNat v172)) rfl (fun α173 e174 => ?_)
          have hI175 : qI σ α173 κ ρ := by rw [e174]; exact qI_r hI87 59 _ rfl (show (-2147483648) ≤ v172 ∧ v172 ≤ 2147483647 by omega)
          have hF176 : qFr [] [53, 57, 59, 60, 61, 62, 63, 85] σ α σ α173 := by rw [e174]; exact qFr_r hF88 59 _ (by decide)
          have hy177 : qSt σ α173 := qSt_c rfl (by rw [e174]; exact qw_r_ne (by decide)) (by rw [e174]; exact qw_r_ne (by decide)) hx89
          exact hJ108 _ α173 g79 g80 g81 g82 g84 hI175 hF176 hy177
      refine qr_if_eq 87 72 rfl rfl rfl (qrg hv66 (by decide) (by decide)) (fun h178 => ?_) (fun h178 => ?_)
      · skip
        exact hJ90 _ α61 g54 g55 g56 g57 g58 g59 hI62 hF63 hx64
      · skip
        refine qr_aload_n 73 rfl g54 rfl ?_
        refine qr_get 76 rfl rfl rfl (by decide) rfl ?_
        refine qr_iconst 77 rfl rfl ?_
        refine qr_aload_n 78 rfl g54 rfl ?_
        refine qr_iload_n 79 rfl g55 rfl ?_
        refine qr_iload_n 80 rfl g56 rfl ?_
        refine qr_callN 83 rfl rfl rfl (sf_94_58s (d := d + 0) hI62 r2 r3 (by omega) hx64) ?_
        rintro _ _ ⟨α181, rfl, hI182, hG183, v179, rfl, hv179, hx180⟩
        have hF184 : qFr [] [53, 57, 59, 60, 61, 62, 63, 85] σ α σ α181 := qFr_t hF63 hG183 (by decide) (by decide)
        show qr_W (qe L xs vb) (d + 3) qx_e90 _ (83, _, [.long (ql v179), .int (qz 2), .ref 59], qw σ α181 κ ρ, 0, 0)
        refine qr_callN 86 rfl rfl rfl (sf_74 (d := d + 2) hI182 hv179) ?_
        rintro _ _ ⟨rfl, v185, rfl, hv185⟩
        show qr_W (qe L xs vb) (d + 3) qx_e90 _ (86, _, [.int (qz v185), .int (qz 2), .ref 59], qw σ α181 κ ρ, 0, 0)
        refine qr_iastore 87 rfl (by decide) rfl (by decide) (by decide) rfl ?_
        refine qy_wA (qw_r α181 59 (qzu (α181 59) (2 : Int).toNat v185)) rfl (fun α186 e187 => ?_)
        have hI188 : qI σ α186 κ ρ := by rw [e187]; exact qI_r hI182 59 _ rfl (show (-2147483648) ≤ v185 ∧ v185 ≤ 2147483647 by omega)
        have hF189 : qFr [] [53, 57, 59, 60, 61, 62, 63, 85] σ α σ α186 := by rw [e187]; exact qFr_r hF184 59 _ (by decide)
        have hy190 : qSt σ α186 := qSt_c rfl (by rw [e187]; exact qw_r_ne (by decide)) (by rw [e187]; exact qw_r_ne (by decide)) hx180
        exact hJ90 _ α186 g54 g55 g56 g57 g58 g59 hI188 hF189 hy190
    refine qr_if_ne 26 17 rfl rfl rfl (qrg hv4 (by decide) (by decide)) (fun h191 => ?_) (fun h191 => ?_)
    · skip
      refine qr_aload_n 27 rfl rfl rfl ?_
      refine qr_iload_n 28 rfl rfl rfl ?_
      refine qr_iload_n 29 rfl rfl rfl ?_
      refine qr_callN 32 rfl rfl rfl (sf_92_58s (d := d + 0) hI r2 r3 (by omega) p1) ?_
      rintro _ _ ⟨α194, rfl, hI195, hG196, v192, rfl, hv192, hx193⟩
      have hF197 : qFr [] [53, 57, 59, 60, 61, 62, 63, 85] σ α σ α194 := qFr_t hF0 hG196 (by decide) (by decide)
      show qr_W (qe L xs vb) (d + 3) qx_e90 _ (32, _, [.int (qz v192)], qw σ α194 κ ρ, 0, 0)
      refine qr_bipush 34 rfl (by decide) rfl ?_
      refine qr_idiv 35 rfl (qrg hv192 (by decide) (by decide)) (by decide) rfl ?_
      refine qr_istore _ 37 rfl (by decide) rfl rfl ?_
      refine qr_aload_n 38 rfl rfl rfl ?_
      refine qr_get 41 rfl rfl rfl (by decide) rfl ?_
      refine qr_iconst 42 rfl rfl ?_
      refine qr_iload 44 rfl rfl rfl ?_
      refine qr_bipush 46 rfl (by decide) rfl ?_
      have hJ207 : ∀ (ls : qm_L) (u205 : Int), qm_get ls 0 = some (.ref 58) → qm_get ls 2 = some (.int (qz x2)) → qm_get ls 3 = some (.int (qz x3)) → qm_get ls 4 = some (.int (qz x4)) → qm_get ls 5 = some (.long (ql x5)) → qm_get ls 7 = some (.ref 50) → qm_get ls 8 = some (.int (qz (v192 / 64))) → (0 ≤ u205 ∧ u205 ≤ 1) → qr_W (qe L xs vb) (d + 3) qx_e90 (fun r w' => ∃ α', w' = qw σ α' κ ρ ∧ qI σ α' κ ρ ∧ qFr [] [53, 57, 59, 60, 61, 62, 63, 85] σ α σ α' ∧ ∃ v : Int, r = some (.int (qz v)) ∧ ((-2147483648) ≤ v ∧ v ≤ 2147483647) ∧ qSt σ α') (54, ls, [.int (qz u205), .int (qz 0), .ref 59], qw σ α194 κ ρ, 0, 0) := by
        intro ls u205 g198 g199 g200 g201 g202 g203 g204 hf206
        refine qr_iastore 55 rfl (by decide) rfl (by decide) (by decide) rfl ?_
        refine qy_wA (qw_r α194 59 (qzu (α194 59) (0 : Int).toNat u205)) rfl (fun α208 e209 => ?_)
        have hI210 : qI σ α208 κ ρ := by rw [e209]; exact qI_r hI195 59 _ rfl (show (-2147483648) ≤ u205 ∧ u205 ≤ 2147483647 by omega)
        have hF211 : qFr [] [53, 57, 59, 60, 61, 62, 63, 85] σ α σ α208 := by rw [e209]; exact qFr_r hF197 59 _ (by decide)
        have hy212 : qSt σ α208 := qSt_c rfl (by rw [e209]; exact qw_r_ne (by decide)) (by rw [e209]; exact qw_r_ne (by decide)) hx193
        refine qr_aload_n 56 rfl g198 rfl ?_
        refine qr_get 59 rfl rfl rfl (by decide) rfl ?_
        refine qr_iconst 60 rfl rfl ?_
        refine qr_iload 62 rfl g204 rfl ?_
        refine qr_iastore 63 rfl (by decide) rfl (by decide) (by decide) rfl ?_
        refine qy_wA (qw_r α208 59 (qzu (α208 59) (1 : Int).toNat (v192 / 64))) rfl (fun α213 e214 => ?_)
        have hI215 : qI σ α213 κ ρ := by rw [e214]; exact qI_r hI210 59 _ rfl (show (-2147483648) ≤ (v192 / 64) ∧ (v192 / 64) ≤ 2147483647 by omega)
        have hF216 : qFr [] [53, 57, 59, 60, 61, 62, 63, 85] σ α σ α213 := by rw [e214]; exact qFr_r hF211 59 _ (by decide)
        have hy217 : qSt σ α213 := qSt_c rfl (by rw [e214]; exact qw_r_ne (by decide)) (by rw [e214]; exact qw_r_ne (by decide)) hy212
        exact hJ65 _ α213 g198 g199 g200 g201 g202 g203 hI215 hF216 hy217
      refine qr_icmp_ge 53 49 rfl rfl rfl (by omega) (by decide) (fun h218 => ?_) (fun h218 => ?_)
      · skip
        refine qr_iconst 54 rfl rfl ?_
        exact hJ207 _ 0 rfl rfl rfl rfl rfl rfl rfl (by decide)
      · skip
        refine qr_iconst 50 rfl rfl ?_
        refine qr_goto 54 rfl rfl ?_
        exact hJ207 _ 1 rfl rfl rfl rfl rfl rfl rfl (by decide)
    · skip
      refine qr_aload 19 rfl rfl rfl ?_
      refine qr_iconst 20 rfl rfl ?_
      refine qr_callN 23 rfl rfl rfl (sf_91_50 (d := d + 1) hI (by decide)) ?_
      rintro _ _ ⟨rfl, v219, rfl, hv219⟩
      show qr_W (qe L xs vb) (d + 3) qx_e90 _ (23, _, [.int (qz v219)], qw σ α κ ρ, 0, 0)
      refine qr_if_eq 63 26 rfl rfl rfl (qrg hv219 (by decide) (by decide)) (fun h220 => ?_) (fun h220 => ?_)
      · skip
        exact hJ65 _ α rfl rfl rfl rfl rfl rfl hI hF0 p1
      · skip
        refine qr_aload_n 27 rfl rfl rfl ?_
        refine qr_iload_n 28 rfl rfl rfl ?_
        refine qr_iload_n 29 rfl rfl rfl ?_
        refine qr_callN 32 rfl rfl rfl (sf_92_58s (d := d + 0) hI r2 r3 (by omega) p1) ?_
        rintro _ _ ⟨α223, rfl, hI224, hG225, v221, rfl, hv221, hx222⟩
        have hF226 : qFr [] [53, 57, 59, 60, 61, 62, 63, 85] σ α σ α223 := qFr_t hF0 hG225 (by decide) (by decide)
        show qr_W (qe L xs vb) (d + 3) qx_e90 _ (32, _, [.int (qz v221)], qw σ α223 κ ρ, 0, 0)
        refine qr_bipush 34 rfl (by decide) rfl ?_
        refine qr_idiv 35 rfl (qrg hv221 (by decide) (by decide)) (by decide) rfl ?_
        refine qr_istore _ 37 rfl (by decide) rfl rfl ?_
        refine qr_aload_n 38 rfl rfl rfl ?_
        refine qr_get 41 rfl rfl rfl (by decide) rfl ?_
        refine qr_iconst 42 rfl rfl ?_
        refine qr_iload 44 rfl rfl rfl ?_
        refine qr_bipush 46 rfl (by decide) rfl ?_
        have hJ236 : ∀ (ls : qm_L) (u234 : Int), qm_get ls 0 = some (.ref 58) → qm_get ls 2 = some (.int (qz x2)) → qm_get ls 3 = some (.int (qz x3)) → qm_get ls 4 = some (.int (qz x4)) → qm_get ls 5 = some (.long (ql x5)) → qm_get ls 7 = some (.ref 50) → qm_get ls 8 = some (.int (qz (v221 / 64))) → (0 ≤ u234 ∧ u234 ≤ 1) → qr_W (qe L xs vb) (d + 3) qx_e90 (fun r w' => ∃ α', w' = qw σ α' κ ρ ∧ qI σ α' κ ρ ∧ qFr [] [53, 57, 59, 60, 61, 62, 63, 85] σ α σ α' ∧ ∃ v : Int, r = some (.int (qz v)) ∧ ((-2147483648) ≤ v ∧ v ≤ 2147483647) ∧ qSt σ α') (54, ls, [.int (qz u234), .int (qz 0), .ref 59], qw σ α223 κ ρ, 0, 0) := by
          intro ls u234 g227 g228 g229 g230 g231 g232 g233 hf235
          refine qr_iastore 55 rfl (by decide) rfl (by decide) (by decide) rfl ?_
          refine qy_wA (qw_r α223 59 (qzu (α223 59) (0 : Int).toNat u234)) rfl (fun α237 e238 => ?_)
          have hI239 : qI σ α237 κ ρ := by rw [e238]; exact qI_r hI224 59 _ rfl (show (-2147483648) ≤ u234 ∧ u234 ≤ 2147483647 by omega)
          have hF240 : qFr [] [53, 57, 59, 60, 61, 62, 63, 85] σ α σ α237 := by rw [e238]; exact qFr_r hF226 59 _ (by decide)
          have hy241 : qSt σ α237 := qSt_c rfl (by rw [e238]; exact qw_r_ne (by decide)) (by rw [e238]; exact qw_r_ne (by decide)) hx222
          refine qr_aload_n 56 rfl g227 rfl ?_
          refine qr_get 59 rfl rfl rfl (by decide) rfl ?_
          refine qr_iconst 60 rfl rfl ?_
          refine qr_iload 62 rfl g233 rfl ?_
          refine qr_iastore 63 rfl (by decide) rfl (by decide) (by decide) rfl ?_
          refine qy_wA (qw_r α237 59 (qzu (α237 59) (1 : Int).toNat (v221 / 64))) rfl (fun α242 e243 => ?_)
          have hI244 : qI σ α242 κ ρ := by rw [e243]; exact qI_r hI239 59 _ rfl (show (-2147483648) ≤ (v221 / 64) ∧ (v221 / 64) ≤ 2147483647 by omega)
          have hF245 : qFr [] [53, 57, 59, 60, 61, 62, 63, 85] σ α σ α242 := by rw [e243]; exact qFr_r hF240 59 _ (by decide)
          have hy246 : qSt σ α242 := qSt_c rfl (by rw [e243]; exact qw_r_ne (by decide)) (by rw [e243]; exact qw_r_ne (by decide)) hy241
          exact hJ65 _ α242 g227 g228 g229 g230 g231 g232 hI244 hF245 hy246
        refine qr_icmp_ge 53 49 rfl rfl rfl (by omega) (by decide) (fun h247 => ?_) (fun h247 => ?_)
        · skip
          refine qr_iconst 54 rfl rfl ?_
          exact hJ236 _ 0 rfl rfl rfl rfl rfl rfl rfl (by decide)
        · skip
          refine qr_iconst 50 rfl rfl ?_
          refine qr_goto 54 rfl rfl ?_
          exact hJ236 _ 1 rfl rfl rfl rfl rfl rfl rfl (by decide)
  · skip
    refine qr_astore _ 8 rfl (by decide) rfl rfl ?_
    refine qr_aload 10 rfl rfl rfl ?_
    refine qr_iconst 11 rfl rfl ?_
    refine qr_callN 14 rfl rfl rfl (sf_91_54 (d := d + 1) hI (by decide)) ?_
    rintro _ _ ⟨rfl, v248, rfl, hv248⟩
    show qr_W (qe L xs vb) (d + 3) qx_e90 _ (14, _, [.int (qz v248)], qw σ α κ ρ, 0, 0)
    have hJ309 : ∀ (ls : qm_L) (α305 : Nat → Nat → Int), qm_get ls 0 = some (.ref 58) → qm_get ls 2 = some (.int (qz x2)) → qm_get ls 3 = some (.int (qz x3)) → qm_get ls 4 = some (.int (qz x4)) → qm_get ls 5 = some (.long (ql x5)) → qm_get ls 7 = some (.ref 54) → qI σ α305 κ ρ → qFr [] [53, 57, 59, 60, 61, 62, 63, 85] σ α σ α305 → qSt σ α305 → qr_W (qe L xs vb) (d + 3) qx_e90 (fun r w' => ∃ α', w' = qw σ α' κ ρ ∧ qI σ α' κ ρ ∧ qFr [] [53, 57, 59, 60, 61, 62, 63, 85] σ α σ α' ∧ ∃ v : Int, r = some (.int (qz v)) ∧ ((-2147483648) ≤ v ∧ v ≤ 2147483647) ∧ qSt σ α') (63, ls, [], qw σ α305 κ ρ, 0, 0) := by
      intro ls α305 g298 g299 g300 g301 g302 g303 hI306 hF307 hx308
      refine qr_aload 65 rfl g303 rfl ?_
      refine qr_iconst 66 rfl rfl ?_
      refine qr_callN 69 rfl rfl rfl (sf_91_54 (d := d + 1) hI306 (by decide)) ?_
      rintro _ _ ⟨rfl, v310, rfl, hv310⟩
      show qr_W (qe L xs vb) (d + 3) qx_e90 _ (69, _, [.int (qz v310)], qw σ α305 κ ρ, 0, 0)
      have hJ334 : ∀ (ls : qm_L) (α330 : Nat → Nat → Int), qm_get ls 0 = some (.ref 58) → qm_get ls 2 = some (.int (qz x2)) → qm_get ls 3 = some (.int (qz x3)) → qm_get ls 4 = some (.int (qz x4)) → qm_get ls 5 = some (.long (ql x5)) → qm_get ls 7 = some (.ref 54) → qI σ α330 κ ρ → qFr [] [53, 57, 59, 60, 61, 62, 63, 85] σ α σ α330 → qSt σ α330 → qr_W (qe L xs vb) (d + 3) qx_e90 (fun r w' => ∃ α', w' = qw σ α' κ ρ ∧ qI σ α' κ ρ ∧ qFr [] [53, 57, 59, 60, 61, 62, 63, 85] σ α σ α' ∧ ∃ v : Int, r = some (.int (qz v)) ∧ ((-2147483648) ≤ v ∧ v ≤ 2147483647) ∧ qSt σ α') (87, ls, [], qw σ α330 κ ρ, 0, 0) := by
        intro ls α330 g323 g324 g325 g326 g327 g328 hI331 hF332 hx333
        refine qr_aload 89 rfl g328 rfl ?_
        refine qr_bipush 91 rfl (by decide) rfl ?_
        refine qr_callN 94 rfl rfl rfl (sf_91_54 (d := d + 1) hI331 (by decide)) ?_
        rintro _ _ ⟨rfl, v335, rfl, hv335⟩
        show qr_W (qe L xs vb) (d + 3) qx_e90 _ (94, _, [.int (qz v335)], qw σ α330 κ ρ, 0, 0)
        have hJ352 : ∀ (ls : qm_L) (α348 : Nat → Nat → Int), qm_get ls 0 = some (.ref 58) → qm_get ls 2 = some (.int (qz x2)) → qm_get ls 3 = some (.int (qz x3)) → qm_get ls 4 = some (.int (qz x4)) → qm_get ls 7 = some (.ref 54) → qI σ α348 κ ρ → qFr [] [53, 57, 59, 60, 61, 62, 63, 85] σ α σ α348 → qSt σ α348 → qr_W (qe L xs vb) (d + 3) qx_e90 (fun r w' => ∃ α', w' = qw σ α' κ ρ ∧ qI σ α' κ ρ ∧ qFr [] [53, 57, 59, 60, 61, 62, 63, 85] σ α σ α' ∧ ∃ v : Int, r = some (.int (qz v)) ∧ ((-2147483648) ≤ v ∧ v ≤ 2147483647) ∧ qSt σ α') (114, ls, [], qw σ α348 κ ρ, 0, 0) := by
          intro ls α348 g342 g343 g344 g345 g346 hI349 hF350 hx351
          refine qr_aload_n 115 rfl g342 rfl ?_
          refine qr_get 118 rfl rfl rfl (by decide) rfl ?_
          refine qr_iconst 119 rfl rfl ?_
          refine qr_aload_n 120 rfl g342 rfl ?_
          refine qr_get 123 rfl rfl rfl (by decide) rfl ?_
          refine qr_get 126 rfl rfl rfl (by decide) rfl ?_
          refine qr_iload_n 127 rfl g343 rfl ?_
          refine qr_iaload 128 rfl rfl (qrgi r2 (by decide) (by decide)) (by decide) rfl ?_
          refine qr_topI (fun v353 hv353 => ?_)
          have hs354 : (-2147483648) ≤ v353 ∧ v353 ≤ 2147483647 := by rw [hv353]; exact hI349.2.1 20 _ (show _ < 32 from qrgt r2 (by decide) (by decide))
          refine qr_iastore 129 rfl (by decide) rfl (by decide) (by decide) rfl ?_
          refine qy_wA (qw_r α348 59 (qzu (α348 59) (3 : Int).toNat v353)) rfl (fun α355 e356 => ?_)
          have hI357 : qI σ α355 κ ρ := by rw [e356]; exact qI_r hI349 59 _ rfl (show (-2147483648) ≤ v353 ∧ v353 ≤ 2147483647 by omega)
          have hF358 : qFr [] [53, 57, 59, 60, 61, 62, 63, 85] σ α σ α355 := by rw [e356]; exact qFr_r hF350 59 _ (by decide)
          have hy359 : qSt σ α355 := qSt_c rfl (by rw [e356]; exact qw_r_ne (by decide)) (by rw [e356]; exact qw_r_ne (by decide)) hx351
          refine qr_aload_n 130 rfl g342 rfl ?_
          refine qr_get 133 rfl rfl rfl (by decide) rfl ?_
          refine qr_iconst 134 rfl rfl ?_
          refine qr_aload_n 135 rfl g342 rfl ?_
          refine qr_get 138 rfl rfl rfl (by decide) rfl ?_
          refine qr_get 141 rfl rfl rfl (by decide) rfl ?_
          refine qr_iload_n 142 rfl g344 rfl ?_
          refine qr_iaload 143 rfl rfl (qrgi r3 (by decide) (by decide)) (by decide) rfl ?_
          refine qr_topI (fun v360 hv360 => ?_)
          have hs361 : (-2147483648) ≤ v360 ∧ v360 ≤ 2147483647 := by rw [hv360]; exact hI357.2.1 20 _ (show _ < 32 from qrgt r3 (by decide) (by decide))
          refine qr_iastore 144 rfl (by decide) rfl (by decide) (by decide) rfl ?_
          refine qy_wA (qw_r α355 59 (qzu (α355 59) (4 : Int).toNat v360)) rfl (fun α362 e363 => ?_)
          have hI364 : qI σ α362 κ ρ := by rw [e363]; exact qI_r hI357 59 _ rfl (show (-2147483648) ≤ v360 ∧ v360 ≤ 2147483647 by omega)
          have hF365 : qFr [] [53, 57, 59, 60, 61, 62, 63, 85] σ α σ α362 := by rw [e363]; exact qFr_r hF358 59 _ (by decide)
          have hy366 : qSt σ α362 := qSt_c rfl (by rw [e363]; exact qw_r_ne (by decide)) (by rw [e363]; exact qw_r_ne (by decide)) hy359
          refine qr_aload_n 145 rfl g342 rfl ?_
          refine qr_get 148 rfl rfl rfl (by decide) rfl ?_
          refine qr_iconst 149 rfl rfl ?_
          refine qr_aload_n 150 rfl g342 rfl ?_
          refine qr_get 153 rfl rfl rfl (by decide) rfl ?_
          refine qr_get 156 rfl rfl rfl (by decide) rfl ?_
          refine qr_iload_n 157 rfl g343 rfl ?_
          refine qr_laload 158 rfl (by decide) rfl (qrgi r2 (by decide) (by decide)) (by decide) rfl ?_
          refine qr_topL (fun v367 hv367 => ?_)
          have hs368 : (-9223372036854775808) ≤ v367 ∧ v367 ≤ 9223372036854775807 := by rw [hv367]; exact hI364.2.1 22 _ (show _ < 32 from qrgt r2 (by decide) (by decide))
          refine qr_iload_n 159 rfl g344 rfl ?_
          refine qr_callN 162 rfl rfl rfl (sf_50 (d := d + 2) hI364 hs368 (qrg r3 (by decide) (by decide))) ?_
          rintro _ _ ⟨rfl, v369, rfl, hv369⟩
          show qr_W (qe L xs vb) (d + 3) qx_e90 _ (162, _, [.int (qz v369), .int (qz 5), .ref 59], qw σ α362 κ ρ, 0, 0)
          have hJ377 : ∀ (ls : qm_L) (u375 : Int), qm_get ls 0 = some (.ref 58) → qm_get ls 2 = some (.int (qz x2)) → qm_get ls 3 = some (.int (qz x3)) → qm_get ls 4 = some (.int (qz x4)) → qm_get ls 7 = some (.ref 54) → (0 ≤ u375 ∧ u375 ≤ 1) → qr_W (qe L xs vb) (d + 3) qx_e90 (fun r w' => ∃ α', w' = qw σ α' κ ρ ∧ qI σ α' κ ρ ∧ qFr [] [53, 57, 59, 60, 61, 62, 63, 85] σ α σ α' ∧ ∃ v : Int, r = some (.int (qz v)) ∧ ((-2147483648) ≤ v ∧ v ≤ 2147483647) ∧ qSt σ α') (170, ls, [.int (qz u375), .int (qz 5), .ref 59], qw σ α362 κ ρ, 0, 0) := by
            intro ls u375 g370 g371 g372 g373 g374 hf376
            refine qr_iastore 171 rfl (by decide) rfl (by decide) (by decide) rfl ?_
            refine qy_wA (qw_r α362 59 (qzu (α362 59) (5 : Int).toNat u375)) rfl (fun α378 e379 => ?_)
            have hI380 : qI σ α378 κ ρ := by rw [e379]; exact qI_r hI364 59 _ rfl (show (-2147483648) ≤ u375 ∧ u375 ≤ 2147483647 by omega)
            have hF381 : qFr [] [53, 57, 59, 60, 61, 62, 63, 85] σ α σ α378 := by rw [e379]; exact qFr_r hF365 59 _ (by decide)
            have hy382 : qSt σ α378 := qSt_c rfl (by rw [e379]; exact qw_r_ne (by decide)) (by rw [e379]; exact qw_r_ne (by decide)) hy366
            refine qr_aload_n 172 rfl g370 rfl ?_
            refine qr_get 175 rfl rfl rfl (by decide) rfl ?_
            refine qr_bipush 177 rfl (by decide) rfl ?_
            refine qr_aload_n 178 rfl g370 rfl ?_
            refine qr_get 181 rfl rfl rfl (by decide) rfl ?_
            refine qr_iload_n 182 rfl g371 rfl ?_
            refine qr_iload_n 183 rfl g372 rfl ?_
            refine qr_callN 186 rfl rfl rfl (sf_57_23 (d := d + 2) hI380 r2 r3) ?_
            rintro _ _ ⟨rfl, v383, rfl, hv383⟩
            show qr_W (qe L xs vb) (d + 3) qx_e90 _ (186, _, [.int (qz v383), .int (qz 6), .ref 59], qw σ α378 κ ρ, 0, 0)
            refine qr_bipush 188 rfl (by decide) rfl ?_
            refine qr_callN 191 rfl rfl rfl (sf_12 (d := d + 2) hI380 (qrg hv383 (by decide) (by decide)) (by decide)) ?_
            rintro _ _ ⟨rfl, v384, rfl, hv384, hp385⟩
            show qr_W (qe L xs vb) (d + 3) qx_e90 _ (191, _, [.int (qz v384), .int (qz 6), .ref 59], qw σ α378 κ ρ, 0, 0)
            refine qr_iastore 192 rfl (by decide) rfl (by decide) (by decide) rfl ?_
            refine qy_wA (qw_r α378 59 (qzu (α378 59) (6 : Int).toNat v384)) rfl (fun α386 e387 => ?_)
            have hI388 : qI σ α386 κ ρ := by rw [e387]; exact qI_r hI380 59 _ rfl (show (-2147483648) ≤ v384 ∧ v384 ≤ 2147483647 by omega)
            have hF389 : qFr [] [53, 57, 59, 60, 61, 62, 63, 85] σ α σ α386 := by rw [e387]; exact qFr_r hF381 59 _ (by decide)
            have hy390 : qSt σ α386 := qSt_c rfl (by rw [e387]; exact qw_r_ne (by decide)) (by rw [e387]; exact qw_r_ne (by decide)) hy382
            refine qr_aload_n 193 rfl g370 rfl ?_
            refine qr_get 196 rfl rfl rfl (by decide) rfl ?_
            refine qr_bipush 198 rfl (by decide) rfl ?_
            refine qr_iload 200 rfl g373 rfl ?_
            refine qr_iconst 201 rfl rfl ?_
            have hJ398 : ∀ (ls : qm_L) (u396 : Int), qm_get ls 0 = some (.ref 58) → qm_get ls 7 = some (.ref 54) → (0 ≤ u396 ∧ u396 ≤ 9) → qr_W (qe L xs vb) (d + 3) qx_e90 (fun r w' => ∃ α', w' = qw σ α' κ ρ ∧ qI σ α' κ ρ ∧ qFr [] [53, 57, 59, 60, 61, 62, 63, 85] σ α σ α' ∧ ∃ v : Int, r = some (.int (qz v)) ∧ ((-2147483648) ≤ v ∧ v ≤ 2147483647) ∧ qSt σ α') (223, ls, [.int (qz u396), .int (qz 8), .ref 59], qw σ α386 κ ρ, 0, 0) := by
              intro ls u396 g394 g395 hf397
              refine qr_iastore 224 rfl (by decide) rfl (by decide) (by decide) rfl ?_
              refine qy_wA (qw_r α386 59 (qzu (α386 59) (8 : Int).toNat u396)) rfl (fun α399 e400 => ?_)
              have hI401 : qI σ α399 κ ρ := by rw [e400]; exact qI_r hI388 59 _ rfl (show (-2147483648) ≤ u396 ∧ u396 ≤ 2147483647 by omega)
              have hF402 : qFr [] [53, 57, 59, 60, 61, 62, 63, 85] σ α σ α399 := by rw [e400]; exact qFr_r hF389 59 _ (by decide)
              have hy403 : qSt σ α399 := qSt_c rfl (by rw [e400]; exact qw_r_ne (by decide)) (by rw [e400]; exact qw_r_ne (by decide)) hy390
              refine qr_aload 226 rfl g395 rfl ?_
              refine qr_aload_n 227 rfl g394 rfl ?_
              refine qr_get 230 rfl rfl rfl (by decide) rfl ?_
              refine qr_callN 233 rfl rfl rfl (sf_97_54_59 (d := d + 1) hI401 ) ?_
              rintro _ _ ⟨α405, rfl, hI406, hG407, v404, rfl, hv404⟩
              have hF408 : qFr [] [53, 57, 59, 60, 61, 62, 63, 85] σ α σ α405 := qFr_t hF402 hG407 (by decide) (by decide)
              have hy409 := qSt_fr hG407 (by decide) (by decide) hy403
              show qr_W (qe L xs vb) (d + 3) qx_e90 _ (233, _, [.int (qz v404)], qw σ α405 κ ρ, 0, 0)
              refine qr_retI rfl rfl (by decide) (by decide) ?_
              exact ⟨_, rfl, hI406, hF408, v404, rfl, hv404, hy409⟩
            refine qr_icmp_ne 208 204 rfl rfl rfl (qrg r4 (by decide) (by decide)) (by decide) (fun h410 => ?_) (fun h410 => ?_)
            · skip
              refine qr_aload_n 209 rfl g370 rfl ?_
              refine qr_get 212 rfl rfl rfl (by decide) rfl ?_
              refine qr_iload_n 213 rfl g371 rfl ?_
              refine qr_iload 215 rfl g373 rfl ?_
              refine qr_callN 218 rfl rfl rfl (sf_57_23 (d := d + 2) hI388 r2 (by omega)) ?_
              rintro _ _ ⟨rfl, v411, rfl, hv411⟩
              show qr_W (qe L xs vb) (d + 3) qx_e90 _ (218, _, [.int (qz v411), .int (qz 8), .ref 59], qw σ α386 κ ρ, 0, 0)
              refine qr_bipush 220 rfl (by decide) rfl ?_
              refine qr_callN 223 rfl rfl rfl (sf_12 (d := d + 2) hI388 (qrg hv411 (by decide) (by decide)) (by decide)) ?_
              rintro _ _ ⟨rfl, v412, rfl, hv412, hp413⟩
              show qr_W (qe L xs vb) (d + 3) qx_e90 _ (223, _, [.int (qz v412), .int (qz 8), .ref 59], qw σ α386 κ ρ, 0, 0)
              exact hJ398 _ v412 g370 g374 (by omega)
            · skip
              refine qr_iconst 205 rfl rfl ?_
              refine qr_goto 223 rfl rfl ?_
              exact hJ398 _ 0 g370 g374 (by decide)
          refine qr_if_eq 169 165 rfl rfl rfl (qrg hv369 (by decide) (by decide)) (fun h414 => ?_) (fun h414 => ?_)
          · skip
            refine qr_iconst 170 rfl rfl ?_
            exact hJ377 _ 0 g342 g343 g344 g345 g346 (by decide)
          · skip
            refine qr_iconst 166 rfl rfl ?_
            refine qr_goto 170 rfl rfl ?_
            exact hJ377 _ 1 g342 g343 g344 g345 g346 (by decide)
        refine qr_if_eq 114 97 rfl rfl rfl (qrg hv335 (by decide) (by decide)) (fun h415 => ?_) (fun h415 => ?_)
        · skip
          exact hJ352 _ α330 g323 g324 g325 g326 g328 hI331 hF332 hx333
        · skip
          refine qr_aload_n 98 rfl g323 rfl ?_
          refine qr_get 101 rfl rfl rfl (by decide) rfl ?_
          refine qr_bipush 103 rfl (by decide) rfl ?_
          refine qr_aload_n 104 rfl g323 rfl ?_
          refine qr_get 107 rfl rfl rfl (by decide) rfl ?_
          refine qr_iload_n 108 rfl g324 rfl ?_
          refine qr_lload 110 rfl g327 rfl ?_
          refine qr_callN 113 rfl rfl rfl (sf_95_17 (d := d + 1) hI331 r2 r5) ?_
          rintro _ _ ⟨rfl, v416, rfl, hv416⟩
          show qr_W (qe L xs vb) (d + 3) qx_e90 _ (113, _, [.int (qz v416), .int (qz 7), .ref 59], qw σ α330 κ ρ, 0, 0)
          refine qr_iastore 114 rfl (by decide) rfl (by decide) (by decide) rfl ?_
          refine qy_wA (qw_r α330 59 (qzu (α330 59) (7 : Int).toNat v416)) rfl (fun α417 e418 => ?_)
          have hI419 : qI σ α417 κ ρ := by rw [e418]; exact qI_r hI331 59 _ rfl (show (-2147483648) ≤ v416 ∧ v416 ≤ 2147483647 by omega)
          have hF420 : qFr [] [53, 57, 59, 60, 61, 62, 63, 85] σ α σ α417 := by rw [e418]; exact qFr_r hF332 59 _ (by decide)
          have hy421 : qSt σ α417 := qSt_c rfl (by rw [e418]; exact qw_r_ne (by decide)) (by rw [e418]; exact qw_r_ne (by decide)) hx333
          exact hJ352 _ α417 g323 g324 g325 g326 g328 hI419 hF420 hy421
      refine qr_if_eq 87 72 rfl rfl rfl (qrg hv310 (by decide) (by decide)) (fun h422 => ?_) (fun h422 => ?_)
      · skip
        exact hJ334 _ α305 g298 g299 g300 g301 g302 g303 hI306 hF307 hx308
      · skip
        refine qr_aload_n 73 rfl g298 rfl ?_
        refine qr_get 76 rfl rfl rfl (by decide) rfl ?_
        refine qr_iconst 77 rfl rfl ?_
        refine qr_aload_n 78 rfl g298 rfl ?_
        refine qr_iload_n 79 rfl g299 rfl ?_
        refine qr_iload_n 80 rfl g300 rfl ?_
        refine qr_callN 83 rfl rfl rfl (sf_94_58s (d := d + 0) hI306 r2 r3 (by omega) hx308) ?_
        rintro _ _ ⟨α425, rfl, hI426, hG427, v423, rfl, hv423, hx424⟩
        have hF428 : qFr [] [53, 57, 59, 60, 61, 62, 63, 85] σ α σ α425 := qFr_t hF307 hG427 (by decide) (by decide)
        show qr_W (qe L xs vb) (d + 3) qx_e90 _ (83, _, [.long (ql v423), .int (qz 2), .ref 59], qw σ α425 κ ρ, 0, 0)
        refine qr_callN 86 rfl rfl rfl (sf_74 (d := d + 2) hI426 hv423) ?_
        rintro _ _ ⟨rfl, v429, rfl, hv429⟩
        show qr_W (qe L xs vb) (d + 3) qx_e90 _ (86, _, [.int (qz v429), .int (qz 2), .ref 59], qw σ α425 κ ρ, 0, 0)
        refine qr_iastore 87 rfl (by decide) rfl (by decide) (by decide) rfl ?_
        refine qy_wA (qw_r α425 59 (qzu (α425 59) (2 : Int).toNat v429)) rfl (fun α430 e431 => ?_)
        have hI432 : qI σ α430 κ ρ := by rw [e431]; exact qI_r hI426 59 _ rfl (show (-2147483648) ≤ v429 ∧ v429 ≤ 2147483647 by omega)
        have hF433 : qFr [] [53, 57, 59, 60, 61, 62, 63, 85] σ α σ α430 := by rw [e431]; exact qFr_r hF428 59 _ (by decide)
        have hy434 : qSt σ α430 := qSt_c rfl (by rw [e431]; exact qw_r_ne (by decide)) (by rw [e431]; exact qw_r_ne (by decide)) hx424
        exact hJ334 _ α430 g298 g299 g300 g301 g302 g303 hI432 hF433 hy434
    refine qr_if_ne 26 17 rfl rfl rfl (qrg hv248 (by decide) (by decide)) (fun h435 => ?_) (fun h435 => ?_)
    · skip
      refine qr_aload_n 27 rfl rfl rfl ?_
      refine qr_iload_n 28 rfl rfl rfl ?_
      refine qr_iload_n 29 rfl rfl rfl ?_
      refine qr_callN 32 rfl rfl rfl (sf_92_58s (d := d + 0) hI r2 r3 (by omega) p1) ?_
      rintro _ _ ⟨α438, rfl, hI439, hG440, v436, rfl, hv436, hx437⟩
      have hF441 : qFr [] [53, 57, 59, 60, 61, 62, 63, 85] σ α σ α438 := qFr_t hF0 hG440 (by decide) (by decide)
      show qr_W (qe L xs vb) (d + 3) qx_e90 _ (32, _, [.int (qz v436)], qw σ α438 κ ρ, 0, 0)
      refine qr_bipush 34 rfl (by decide) rfl ?_
      refine qr_idiv 35 rfl (qrg hv436 (by decide) (by decide)) (by decide) rfl ?_
      refine qr_istore _ 37 rfl (by decide) rfl rfl ?_
      refine qr_aload_n 38 rfl rfl rfl ?_
      refine qr_get 41 rfl rfl rfl (by decide) rfl ?_
      refine qr_iconst 42 rfl rfl ?_
      refine qr_iload 44 rfl rfl rfl ?_
      refine qr_bipush 46 rfl (by decide) rfl ?_
      have hJ451 : ∀ (ls : qm_L) (u449 : Int), qm_get ls 0 = some (.ref 58) → qm_get ls 2 = some (.int (qz x2)) → qm_get ls 3 = some (.int (qz x3)) → qm_get ls 4 = some (.int (qz x4)) → qm_get ls 5 = some (.long (ql x5)) → qm_get ls 7 = some (.ref 54) → qm_get ls 8 = some (.int (qz (v436 / 64))) → (0 ≤ u449 ∧ u449 ≤ 1) → qr_W (qe L xs vb) (d + 3) qx_e90 (fun r w' => ∃ α', w' = qw σ α' κ ρ ∧ qI σ α' κ ρ ∧ qFr [] [53, 57, 59, 60, 61, 62, 63, 85] σ α σ α' ∧ ∃ v : Int, r = some (.int (qz v)) ∧ ((-2147483648) ≤ v ∧ v ≤ 2147483647) ∧ qSt σ α') (54, ls, [.int (qz u449), .int (qz 0), .ref 59], qw σ α438 κ ρ, 0, 0) := by
        intro ls u449 g442 g443 g444 g445 g446 g447 g448 hf450
        refine qr_iastore 55 rfl (by decide) rfl (by decide) (by decide) rfl ?_
        refine qy_wA (qw_r α438 59 (qzu (α438 59) (0 : Int).toNat u449)) rfl (fun α452 e453 => ?_)
        have hI454 : qI σ α452 κ ρ := by rw [e453]; exact qI_r hI439 59 _ rfl (show (-2147483648) ≤ u449 ∧ u449 ≤ 2147483647 by omega)
        have hF455 : qFr [] [53, 57, 59, 60, 61, 62, 63, 85] σ α σ α452 := by rw [e453]; exact qFr_r hF441 59 _ (by decide)
        have hy456 : qSt σ α452 := qSt_c rfl (by rw [e453]; exact qw_r_ne (by decide)) (by rw [e453]; exact qw_r_ne (by decide)) hx437
        refine qr_aload_n 56 rfl g442 rfl ?_
        refine qr_get 59 rfl rfl rfl (by decide) rfl ?_
        refine qr_iconst 60 rfl rfl ?_
        refine qr_iload 62 rfl g448 rfl ?_
        refine qr_iastore 63 rfl (by decide) rfl (by decide) (by decide) rfl ?_
        refine qy_wA (qw_r α452 59 (qzu (α452 59) (1 : Int).toNat (v436 / 64))) rfl (fun α457 e458 => ?_)
        have hI459 : qI σ α457 κ ρ := by rw [e458]; exact qI_r hI454 59 _ rfl (show (-2147483648) ≤ (v436 / 64) ∧ (v436 / 64) ≤ 2147483647 by omega)
        have hF460 : qFr [] [53, 57, 59, 60, 61, 62, 63, 85] σ α σ α457 := by rw [e458]; exact qFr_r hF455 59 _ (by decide)
        have hy461 : qSt σ α457 := qSt_c rfl (by rw [e458]; exact qw_r_ne (by decide)) (by rw [e458]; exact qw_r_ne (by decide)) hy456
        exact hJ309 _ α457 g442 g443 g444 g445 g446 g447 hI459 hF460 hy461
      refine qr_icmp_ge 53 49 rfl rfl rfl (by omega) (by decide) (fun h462 => ?_) (fun h462 => ?_)
      · skip
        refine qr_iconst 54 rfl rfl ?_
        exact hJ451 _ 0 rfl rfl rfl rfl rfl rfl rfl (by decide)
      · skip
        refine qr_iconst 50 rfl rfl ?_
        refine qr_goto 54 rfl rfl ?_
        exact hJ451 _ 1 rfl rfl rfl rfl rfl rfl rfl (by decide)
    · skip
      refine qr_aload 19 rfl rfl rfl ?_
      refine qr_iconst 20 rfl rfl ?_
      refine qr_callN 23 rfl rfl rfl (sf_91_54 (d := d + 1) hI (by decide)) ?_
      rintro _ _ ⟨rfl, v463, rfl, hv463⟩
      show qr_W (qe L xs vb) (d + 3) qx_e90 _ (23, _, [.int (qz v463)], qw σ α κ ρ, 0, 0)
      refine qr_if_eq 63 26 rfl rfl rfl (qrg hv463 (by decide) (by decide)) (fun h464 => ?_) (fun h464 => ?_)
      · skip
        exact hJ309 _ α rfl rfl rfl rfl rfl rfl hI hF0 p1
      · skip
        refine qr_aload_n 27 rfl rfl rfl ?_
        refine qr_iload_n 28 rfl rfl rfl ?_
        refine qr_iload_n 29 rfl rfl rfl ?_
        refine qr_callN 32 rfl rfl rfl (sf_92_58s (d := d + 0) hI r2 r3 (by omega) p1) ?_
        rintro _ _ ⟨α467, rfl, hI468, hG469, v465, rfl, hv465, hx466⟩
        have hF470 : qFr [] [53, 57, 59, 60, 61, 62, 63, 85] σ α σ α467 := qFr_t hF0 hG469 (by decide) (by decide)
        show qr_W (qe L xs vb) (d + 3) qx_e90 _ (32, _, [.int (qz v465)], qw σ α467 κ ρ, 0, 0)
        refine qr_bipush 34 rfl (by decide) rfl ?_
        refine qr_idiv 35 rfl (qrg hv465 (by decide) (by decide)) (by decide) rfl ?_
        refine qr_istore _ 37 rfl (by decide) rfl rfl ?_
        refine qr_aload_n 38 rfl rfl rfl ?_
        refine qr_get 41 rfl rfl rfl (by decide) rfl ?_
        refine qr_iconst 42 rfl rfl ?_
        refine qr_iload 44 rfl rfl rfl ?_
        refine qr_bipush 46 rfl (by decide) rfl ?_
        have hJ480 : ∀ (ls : qm_L) (u478 : Int), qm_get ls 0 = some (.ref 58) → qm_get ls 2 = some (.int (qz x2)) → qm_get ls 3 = some (.int (qz x3)) → qm_get ls 4 = some (.int (qz x4)) → qm_get ls 5 = some (.long (ql x5)) → qm_get ls 7 = some (.ref 54) → qm_get ls 8 = some (.int (qz (v465 / 64))) → (0 ≤ u478 ∧ u478 ≤ 1) → qr_W (qe L xs vb) (d + 3) qx_e90 (fun r w' => ∃ α', w' = qw σ α' κ ρ ∧ qI σ α' κ ρ ∧ qFr [] [53, 57, 59, 60, 61, 62, 63, 85] σ α σ α' ∧ ∃ v : Int, r = some (.int (qz v)) ∧ ((-2147483648) ≤ v ∧ v ≤ 2147483647) ∧ qSt σ α') (54, ls, [.int (qz u478), .int (qz 0), .ref 59], qw σ α467 κ ρ, 0, 0) := by
          intro ls u478 g471 g472 g473 g474 g475 g476 g477 hf479
          refine qr_iastore 55 rfl (by decide) rfl (by decide) (by decide) rfl ?_
          refine qy_wA (qw_r α467 59 (qzu (α467 59) (0 : Int).toNat u478)) rfl (fun α481 e482 => ?_)
          have hI483 : qI σ α481 κ ρ := by rw [e482]; exact qI_r hI468 59 _ rfl (show (-2147483648) ≤ u478 ∧ u478 ≤ 2147483647 by omega)
          have hF484 : qFr [] [53, 57, 59, 60, 61, 62, 63, 85] σ α σ α481 := by rw [e482]; exact qFr_r hF470 59 _ (by decide)
          have hy485 : qSt σ α481 := qSt_c rfl (by rw [e482]; exact qw_r_ne (by decide)) (by rw [e482]; exact qw_r_ne (by decide)) hx466
          refine qr_aload_n 56 rfl g471 rfl ?_
          refine qr_get 59 rfl rfl rfl (by decide) rfl ?_
          refine qr_iconst 60 rfl rfl ?_
          refine qr_iload 62 rfl g477 rfl ?_
          refine qr_iastore 63 rfl (by decide) rfl (by decide) (by decide) rfl ?_
          refine qy_wA (qw_r α481 59 (qzu (α481 59) (1 : Int).toNat (v465 / 64))) rfl (fun α486 e487 => ?_)
          have hI488 : qI σ α486 κ ρ := by rw [e487]; exact qI_r hI483 59 _ rfl (show (-2147483648) ≤ (v465 / 64) ∧ (v465 / 64) ≤ 2147483647 by omega)
          have hF489 : qFr [] [53, 57, 59, 60, 61, 62, 63, 85] σ α σ α486 := by rw [e487]; exact qFr_r hF484 59 _ (by decide)
          have hy490 : qSt σ α486 := qSt_c rfl (by rw [e487]; exact qw_r_ne (by decide)) (by rw [e487]; exact qw_r_ne (by decide)) hy485
          exact hJ309 _ α486 g471 g472 g473 g474 g475 g476 hI488 hF489 hy490
        refine qr_icmp_ge 53 49 rfl rfl rfl (by omega) (by decide) (fun h491 => ?_) (fun h491 => ?_)
        · skip
          refine qr_iconst 54 rfl rfl ?_
          exact hJ480 _ 0 rfl rfl rfl rfl rfl rfl rfl (by decide)
        · skip
          refine qr_iconst 50 rfl rfl ?_
          refine qr_goto 54 rfl rfl ?_
          exact hJ480 _ 1 rfl rfl rfl rfl rfl rfl rfl (by decide)
  · skip
    refine qr_astore _ 8 rfl (by decide) rfl rfl ?_
    refine qr_aload 10 rfl rfl rfl ?_
    refine qr_iconst 11 rfl rfl ?_
    refine qr_callN 14 rfl rfl rfl (sf_91_82 (d := d + 1) hI (by decide)) ?_
    rintro _ _ ⟨rfl, v492, rfl, hv492⟩
    show qr_W (qe L xs vb) (d + 3) qx_e90 _ (14, _, [.int (qz v492)], qw σ α κ ρ, 0, 0)
    have hJ553 : ∀ (ls : qm_L) (α549 : Nat → Nat → Int), qm_get ls 0 = some (.ref 58) → qm_get ls 2 = some (.int (qz x2)) → qm_get ls 3 = some (.int (qz x3)) → qm_get ls 4 = some (.int (qz x4)) → qm_get ls 5 = some (.long (ql x5)) → qm_get ls 7 = some (.ref 82) → qI σ α549 κ ρ → qFr [] [53, 57, 59, 60, 61, 62, 63, 85] σ α σ α549 → qSt σ α549 → qr_W (qe L xs vb) (d + 3) qx_e90 (fun r w' => ∃ α', w' = qw σ α' κ ρ ∧ qI σ α' κ ρ ∧ qFr [] [53, 57, 59, 60, 61, 62, 63, 85] σ α σ α' ∧ ∃ v : Int, r = some (.int (qz v)) ∧ ((-2147483648) ≤ v ∧ v ≤ 2147483647) ∧ qSt σ α') (63, ls, [], qw σ α549 κ ρ, 0, 0) := by
      intro ls α549 g542 g543 g544 g545 g546 g547 hI550 hF551 hx552
      refine qr_aload 65 rfl g547 rfl ?_
      refine qr_iconst 66 rfl rfl ?_
      refine qr_callN 69 rfl rfl rfl (sf_91_82 (d := d + 1) hI550 (by decide)) ?_
      rintro _ _ ⟨rfl, v554, rfl, hv554⟩
      show qr_W (qe L xs vb) (d + 3) qx_e90 _ (69, _, [.int (qz v554)], qw σ α549 κ ρ, 0, 0)
      have hJ578 : ∀ (ls : qm_L) (α574 : Nat → Nat → Int), qm_get ls 0 = some (.ref 58) → qm_get ls 2 = some (.int (qz x2)) → qm_get ls 3 = some (.int (qz x3)) → qm_get ls 4 = some (.int (qz x4)) → qm_get ls 5 = some (.long (ql x5)) → qm_get ls 7 = some (.ref 82) → qI σ α574 κ ρ → qFr [] [53, 57, 59, 60, 61, 62, 63, 85] σ α σ α574 → qSt σ α574 → qr_W (qe L xs vb) (d + 3) qx_e90 (fun r w' => ∃ α', w' = qw σ α' κ ρ ∧ qI σ α' κ ρ ∧ qFr [] [53, 57, 59, 60, 61, 62, 63, 85] σ α σ α' ∧ ∃ v : Int, r = some (.int (qz v)) ∧ ((-2147483648) ≤ v ∧ v ≤ 2147483647) ∧ qSt σ α') (87, ls, [], qw σ α574 κ ρ, 0, 0) := by
        intro ls α574 g567 g568 g569 g570 g571 g572 hI575 hF576 hx577
        refine qr_aload 89 rfl g572 rfl ?_
        refine qr_bipush 91 rfl (by decide) rfl ?_
        refine qr_callN 94 rfl rfl rfl (sf_91_82 (d := d + 1) hI575 (by decide)) ?_
        rintro _ _ ⟨rfl, v579, rfl, hv579⟩
        show qr_W (qe L xs vb) (d + 3) qx_e90 _ (94, _, [.int (qz v579)], qw σ α574 κ ρ, 0, 0)
        have hJ596 : ∀ (ls : qm_L) (α592 : Nat → Nat → Int), qm_get ls 0 = some (.ref 58) → qm_get ls 2 = some (.int (qz x2)) → qm_get ls 3 = some (.int (qz x3)) → qm_get ls 4 = some (.int (qz x4)) → qm_get ls 7 = some (.ref 82) → qI σ α592 κ ρ → qFr [] [53, 57, 59, 60, 61, 62, 63, 85] σ α σ α592 → qSt σ α592 → qr_W (qe L xs vb) (d + 3) qx_e90 (fun r w' => ∃ α', w' = qw σ α' κ ρ ∧ qI σ α' κ ρ ∧ qFr [] [53, 57, 59, 60, 61, 62, 63, 85] σ α σ α' ∧ ∃ v : Int, r = some (.int (qz v)) ∧ ((-2147483648) ≤ v ∧ v ≤ 2147483647) ∧ qSt σ α') (114, ls, [], qw σ α592 κ ρ, 0, 0) := by
          intro ls α592 g586 g587 g588 g589 g590 hI593 hF594 hx595
          refine qr_aload_n 115 rfl g586 rfl ?_
          refine qr_get 118 rfl rfl rfl (by decide) rfl ?_
          refine qr_iconst 119 rfl rfl ?_
          refine qr_aload_n 120 rfl g586 rfl ?_
          refine qr_get 123 rfl rfl rfl (by decide) rfl ?_
          refine qr_get 126 rfl rfl rfl (by decide) rfl ?_
          refine qr_iload_n 127 rfl g587 rfl ?_
          refine qr_iaload 128 rfl rfl (qrgi r2 (by decide) (by decide)) (by decide) rfl ?_
          refine qr_topI (fun v597 hv597 => ?_)
          have hs598 : (-2147483648) ≤ v597 ∧ v597 ≤ 2147483647 := by rw [hv597]; exact hI593.2.1 20 _ (show _ < 32 from qrgt r2 (by decide) (by decide))
          refine qr_iastore 129 rfl (by decide) rfl (by decide) (by decide) rfl ?_
          refine qy_wA (qw_r α592 59 (qzu (α592 59) (3 : Int).toNat v597)) rfl (fun α599 e600 => ?_)
          have hI601 : qI σ α599 κ ρ := by rw [e600]; exact qI_r hI593 59 _ rfl (show (-2147483648) ≤ v597 ∧ v597 ≤ 2147483647 by omega)
          have hF602 : qFr [] [53, 57, 59, 60, 61, 62, 63, 85] σ α σ α599 := by rw [e600]; exact qFr_r hF594 59 _ (by decide)
          have hy603 : qSt σ α599 := qSt_c rfl (by rw [e600]; exact qw_r_ne (by decide)) (by rw [e600]; exact qw_r_ne (by decide)) hx595
          refine qr_aload_n 130 rfl g586 rfl ?_
          refine qr_get 133 rfl rfl rfl (by decide) rfl ?_
          refine qr_iconst 134 rfl rfl ?_
          refine qr_aload_n 135 rfl g586 rfl ?_
          refine qr_get 138 rfl rfl rfl (by decide) rfl ?_
          refine qr_get 141 rfl rfl rfl (by decide) rfl ?_
          refine qr_iload_n 142 rfl g588 rfl ?_
          refine qr_iaload 143 rfl rfl (qrgi r3 (by decide) (by decide)) (by decide) rfl ?_
          refine qr_topI (fun v604 hv604 => ?_)
          have hs605 : (-2147483648) ≤ v604 ∧ v604 ≤ 2147483647 := by rw [hv604]; exact hI601.2.1 20 _ (show _ < 32 from qrgt r3 (by decide) (by decide))
          refine qr_iastore 144 rfl (by decide) rfl (by decide) (by decide) rfl ?_
          refine qy_wA (qw_r α599 59 (qzu (α599 59) (4 : Int).toNat v604)) rfl (fun α606 e607 => ?_)
          have hI608 : qI σ α606 κ ρ := by rw [e607]; exact qI_r hI601 59 _ rfl (show (-2147483648) ≤ v604 ∧ v604 ≤ 2147483647 by omega)
          have hF609 : qFr [] [53, 57, 59, 60, 61, 62, 63, 85] σ α σ α606 := by rw [e607]; exact qFr_r hF602 59 _ (by decide)
          have hy610 : qSt σ α606 := qSt_c rfl (by rw [e607]; exact qw_r_ne (by decide)) (by rw [e607]; exact qw_r_ne (by decide)) hy603
          refine qr_aload_n 145 rfl g586 rfl ?_
          refine qr_get 148 rfl rfl rfl (by decide) rfl ?_
          refine qr_iconst 149 rfl rfl ?_
          refine qr_aload_n 150 rfl g586 rfl ?_
          refine qr_get 153 rfl rfl rfl (by decide) rfl ?_
          refine qr_get 156 rfl rfl rfl (by decide) rfl ?_
          refine qr_iload_n 157 rfl g587 rfl ?_
          refine qr_laload 158 rfl (by decide) rfl (qrgi r2 (by decide) (by decide)) (by decide) rfl ?_
          refine qr_topL (fun v611 hv611 => ?_)
          have hs612 : (-9223372036854775808) ≤ v611 ∧ v611 ≤ 9223372036854775807 := by rw [hv611]; exact hI608.2.1 22 _ (show _ < 32 from qrgt r2 (by decide) (by decide))
          refine qr_iload_n 159 rfl g588 rfl ?_
          refine qr_callN 162 rfl rfl rfl (sf_50 (d := d + 2) hI608 hs612 (qrg r3 (by decide) (by decide))) ?_
          rintro _ _ ⟨rfl, v613, rfl, hv613⟩
          show qr_W (qe L xs vb) (d + 3) qx_e90 _ (162, _, [.int (qz v613), .int (qz 5), .ref 59], qw σ α606 κ ρ, 0, 0)
          have hJ621 : ∀ (ls : qm_L) (u619 : Int), qm_get ls 0 = some (.ref 58) → qm_get ls 2 = some (.int (qz x2)) → qm_get ls 3 = some (.int (qz x3)) → qm_get ls 4 = some (.int (qz x4)) → qm_get ls 7 = some (.ref 82) → (0 ≤ u619 ∧ u619 ≤ 1) → qr_W (qe L xs vb) (d + 3) qx_e90 (fun r w' => ∃ α', w' = qw σ α' κ ρ ∧ qI σ α' κ ρ ∧ qFr [] [53, 57, 59, 60, 61, 62, 63, 85] σ α σ α' ∧ ∃ v : Int, r = some (.int (qz v)) ∧ ((-2147483648) ≤ v ∧ v ≤ 2147483647) ∧ qSt σ α') (170, ls, [.int (qz u619), .int (qz 5), .ref 59], qw σ α606 κ ρ, 0, 0) := by
            intro ls u619 g614 g615 g616 g617 g618 hf620
            refine qr_iastore 171 rfl (by decide) rfl (by decide) (by decide) rfl ?_
            refine qy_wA (qw_r α606 59 (qzu (α606 59) (5 : Int).toNat u619)) rfl (fun α622 e623 => ?_)
            have hI624 : qI σ α622 κ ρ := by rw [e623]; exact qI_r hI608 59 _ rfl (show (-2147483648) ≤ u619 ∧ u619 ≤ 2147483647 by omega)
            have hF625 : qFr [] [53, 57, 59, 60, 61, 62, 63, 85] σ α σ α622 := by rw [e623]; exact qFr_r hF609 59 _ (by decide)
            have hy626 : qSt σ α622 := qSt_c rfl (by rw [e623]; exact qw_r_ne (by decide)) (by rw [e623]; exact qw_r_ne (by decide)) hy610
            refine qr_aload_n 172 rfl g614 rfl ?_
            refine qr_get 175 rfl rfl rfl (by decide) rfl ?_
            refine qr_bipush 177 rfl (by decide) rfl ?_
            refine qr_aload_n 178 rfl g614 rfl ?_
            refine qr_get 181 rfl rfl rfl (by decide) rfl ?_
            refine qr_iload_n 182 rfl g615 rfl ?_
            refine qr_iload_n 183 rfl g616 rfl ?_
            refine qr_callN 186 rfl rfl rfl (sf_57_23 (d := d + 2) hI624 r2 r3) ?_
            rintro _ _ ⟨rfl, v627, rfl, hv627⟩
            show qr_W (qe L xs vb) (d + 3) qx_e90 _ (186, _, [.int (qz v627), .int (qz 6), .ref 59], qw σ α622 κ ρ, 0, 0)
            refine qr_bipush 188 rfl (by decide) rfl ?_
            refine qr_callN 191 rfl rfl rfl (sf_12 (d := d + 2) hI624 (qrg hv627 (by decide) (by decide)) (by decide)) ?_
            rintro _ _ ⟨rfl, v628, rfl, hv628, hp629⟩
            show qr_W (qe L xs vb) (d + 3) qx_e90 _ (191, _, [.int (qz v628), .int (qz 6), .ref 59], qw σ α622 κ ρ, 0, 0)
            refine qr_iastore 192 rfl (by decide) rfl (by decide) (by decide) rfl ?_
            refine qy_wA (qw_r α622 59 (qzu (α622 59) (6 : Int).toNat v628)) rfl (fun α630 e631 => ?_)
            have hI632 : qI σ α630 κ ρ := by rw [e631]; exact qI_r hI624 59 _ rfl (show (-2147483648) ≤ v628 ∧ v628 ≤ 2147483647 by omega)
            have hF633 : qFr [] [53, 57, 59, 60, 61, 62, 63, 85] σ α σ α630 := by rw [e631]; exact qFr_r hF625 59 _ (by decide)
            have hy634 : qSt σ α630 := qSt_c rfl (by rw [e631]; exact qw_r_ne (by decide)) (by rw [e631]; exact qw_r_ne (by decide)) hy626
            refine qr_aload_n 193 rfl g614 rfl ?_
            refine qr_get 196 rfl rfl rfl (by decide) rfl ?_
            refine qr_bipush 198 rfl (by decide) rfl ?_
            refine qr_iload 200 rfl g617 rfl ?_
            refine qr_iconst 201 rfl rfl ?_
            have hJ642 : ∀ (ls : qm_L) (u640 : Int), qm_get ls 0 = some (.ref 58) → qm_get ls 7 = some (.ref 82) → (0 ≤ u640 ∧ u640 ≤ 9) → qr_W (qe L xs vb) (d + 3) qx_e90 (fun r w' => ∃ α', w' = qw σ α' κ ρ ∧ qI σ α' κ ρ ∧ qFr [] [53, 57, 59, 60, 61, 62, 63, 85] σ α σ α' ∧ ∃ v : Int, r = some (.int (qz v)) ∧ ((-2147483648) ≤ v ∧ v ≤ 2147483647) ∧ qSt σ α') (223, ls, [.int (qz u640), .int (qz 8), .ref 59], qw σ α630 κ ρ, 0, 0) := by
              intro ls u640 g638 g639 hf641
              refine qr_iastore 224 rfl (by decide) rfl (by decide) (by decide) rfl ?_
              refine qy_wA (qw_r α630 59 (qzu (α630 59) (8 : Int).toNat u640)) rfl (fun α643 e644 => ?_)
              have hI645 : qI σ α643 κ ρ := by rw [e644]; exact qI_r hI632 59 _ rfl (show (-2147483648) ≤ u640 ∧ u640 ≤ 2147483647 by omega)
              have hF646 : qFr [] [53, 57, 59, 60, 61, 62, 63, 85] σ α σ α643 := by rw [e644]; exact qFr_r hF633 59 _ (by decide)
              have hy647 : qSt σ α643 := qSt_c rfl (by rw [e644]; exact qw_r_ne (by decide)) (by rw [e644]; exact qw_r_ne (by decide)) hy634
              refine qr_aload 226 rfl g639 rfl ?_
              refine qr_aload_n 227 rfl g638 rfl ?_
              refine qr_get 230 rfl rfl rfl (by decide) rfl ?_
              refine qr_callN 233 rfl rfl rfl (sf_97_82_59 (d := d + 1) hI645 ) ?_
              rintro _ _ ⟨α649, rfl, hI650, hG651, v648, rfl, hv648⟩
              have hF652 : qFr [] [53, 57, 59, 60, 61, 62, 63, 85] σ α σ α649 := qFr_t hF646 hG651 (by decide) (by decide)
              have hy653 := qSt_fr hG651 (by decide) (by decide) hy647
              show qr_W (qe L xs vb) (d + 3) qx_e90 _ (233, _, [.int (qz v648)], qw σ α649 κ ρ, 0, 0)
              refine qr_retI rfl rfl (by decide) (by decide) ?_
              exact ⟨_, rfl, hI650, hF652, v648, rfl, hv648, hy653⟩
            refine qr_icmp_ne 208 204 rfl rfl rfl (qrg r4 (by decide) (by decide)) (by decide) (fun h654 => ?_) (fun h654 => ?_)
            · skip
              refine qr_aload_n 209 rfl g614 rfl ?_
              refine qr_get 212 rfl rfl rfl (by decide) rfl ?_
              refine qr_iload_n 213 rfl g615 rfl ?_
              refine qr_iload 215 rfl g617 rfl ?_
              refine qr_callN 218 rfl rfl rfl (sf_57_23 (d := d + 2) hI632 r2 (by omega)) ?_
              rintro _ _ ⟨rfl, v655, rfl, hv655⟩
              show qr_W (qe L xs vb) (d + 3) qx_e90 _ (218, _, [.int (qz v655), .int (qz 8), .ref 59], qw σ α630 κ ρ, 0, 0)
              refine qr_bipush 220 rfl (by decide) rfl ?_
              refine qr_callN 223 rfl rfl rfl (sf_12 (d := d + 2) hI632 (qrg hv655 (by decide) (by decide)) (by decide)) ?_
              rintro _ _ ⟨rfl, v656, rfl, hv656, hp657⟩
              show qr_W (qe L xs vb) (d + 3) qx_e90 _ (223, _, [.int (qz v656), .int (qz 8), .ref 59], qw σ α630 κ ρ, 0, 0)
              exact hJ642 _ v656 g614 g618 (by omega)
            · skip
              refine qr_iconst 205 rfl rfl ?_
              refine qr_goto 223 rfl rfl ?_
              exact hJ642 _ 0 g614 g618 (by decide)
          refine qr_if_eq 169 165 rfl rfl rfl (qrg hv613 (by decide) (by decide)) (fun h658 => ?_) (fun h658 => ?_)
          · skip
            refine qr_iconst 170 rfl rfl ?_
            exact hJ621 _ 0 g586 g587 g588 g589 g590 (by decide)
          · skip
            refine qr_iconst 166 rfl rfl ?_
            refine qr_goto 170 rfl rfl ?_
            exact hJ621 _ 1 g586 g587 g588 g589 g590 (by decide)
        refine qr_if_eq 114 97 rfl rfl rfl (qrg hv579 (by decide) (by decide)) (fun h659 => ?_) (fun h659 => ?_)
        · skip
          exact hJ596 _ α574 g567 g568 g569 g570 g572 hI575 hF576 hx577
        · skip
          refine qr_aload_n 98 rfl g567 rfl ?_
          refine qr_get 101 rfl rfl rfl (by decide) rfl ?_
          refine qr_bipush 103 rfl (by decide) rfl ?_
          refine qr_aload_n 104 rfl g567 rfl ?_
          refine qr_get 107 rfl rfl rfl (by decide) rfl ?_
          refine qr_iload_n 108 rfl g568 rfl ?_
          refine qr_lload 110 rfl g571 rfl ?_
          refine qr_callN 113 rfl rfl rfl (sf_95_17 (d := d + 1) hI575 r2 r5) ?_
          rintro _ _ ⟨rfl, v660, rfl, hv660⟩
          show qr_W (qe L xs vb) (d + 3) qx_e90 _ (113, _, [.int (qz v660), .int (qz 7), .ref 59], qw σ α574 κ ρ, 0, 0)
          refine qr_iastore 114 rfl (by decide) rfl (by decide) (by decide) rfl ?_
          refine qy_wA (qw_r α574 59 (qzu (α574 59) (7 : Int).toNat v660)) rfl (fun α661 e662 => ?_)
          have hI663 : qI σ α661 κ ρ := by rw [e662]; exact qI_r hI575 59 _ rfl (show (-2147483648) ≤ v660 ∧ v660 ≤ 2147483647 by omega)
          have hF664 : qFr [] [53, 57, 59, 60, 61, 62, 63, 85] σ α σ α661 := by rw [e662]; exact qFr_r hF576 59 _ (by decide)
          have hy665 : qSt σ α661 := qSt_c rfl (by rw [e662]; exact qw_r_ne (by decide)) (by rw [e662]; exact qw_r_ne (by decide)) hx577
          exact hJ596 _ α661 g567 g568 g569 g570 g572 hI663 hF664 hy665
      refine qr_if_eq 87 72 rfl rfl rfl (qrg hv554 (by decide) (by decide)) (fun h666 => ?_) (fun h666 => ?_)
      · skip
        exact hJ578 _ α549 g542 g543 g544 g545 g546 g547 hI550 hF551 hx552
      · skip
        refine qr_aload_n 73 rfl g542 rfl ?_
        refine qr_get 76 rfl rfl rfl (by decide) rfl ?_
        refine qr_iconst 77 rfl rfl ?_
        refine qr_aload_n 78 rfl g542 rfl ?_
        refine qr_iload_n 79 rfl g543 rfl ?_
        refine qr_iload_n 80 rfl g544 rfl ?_
        refine qr_callN 83 rfl rfl rfl (sf_94_58s (d := d + 0) hI550 r2 r3 (by omega) hx552) ?_
        rintro _ _ ⟨α669, rfl, hI670, hG671, v667, rfl, hv667, hx668⟩
        have hF672 : qFr [] [53, 57, 59, 60, 61, 62, 63, 85] σ α σ α669 := qFr_t hF551 hG671 (by decide) (by decide)
        show qr_W (qe L xs vb) (d + 3) qx_e90 _ (83, _, [.long (ql v667), .int (qz 2), .ref 59], qw σ α669 κ ρ, 0, 0)
        refine qr_callN 86 rfl rfl rfl (sf_74 (d := d + 2) hI670 hv667) ?_
        rintro _ _ ⟨rfl, v673, rfl, hv673⟩
        show qr_W (qe L xs vb) (d + 3) qx_e90 _ (86, _, [.int (qz v673), .int (qz 2), .ref 59], qw σ α669 κ ρ, 0, 0)
        refine qr_iastore 87 rfl (by decide) rfl (by decide) (by decide) rfl ?_
        refine qy_wA (qw_r α669 59 (qzu (α669 59) (2 : Int).toNat v673)) rfl (fun α674 e675 => ?_)
        have hI676 : qI σ α674 κ ρ := by rw [e675]; exact qI_r hI670 59 _ rfl (show (-2147483648) ≤ v673 ∧ v673 ≤ 2147483647 by omega)
        have hF677 : qFr [] [53, 57, 59, 60, 61, 62, 63, 85] σ α σ α674 := by rw [e675]; exact qFr_r hF672 59 _ (by decide)
        have hy678 : qSt σ α674 := qSt_c rfl (by rw [e675]; exact qw_r_ne (by decide)) (by rw [e675]; exact qw_r_ne (by decide)) hx668
        exact hJ578 _ α674 g542 g543 g544 g545 g546 g547 hI676 hF677 hy678
    refine qr_if_ne 26 17 rfl rfl rfl (qrg hv492 (by decide) (by decide)) (fun h679 => ?_) (fun h679 => ?_)
    · skip
      refine qr_aload_n 27 rfl rfl rfl ?_
      refine qr_iload_n 28 rfl rfl rfl ?_
      refine qr_iload_n 29 rfl rfl rfl ?_
      refine qr_callN 32 rfl rfl rfl (sf_92_58s (d := d + 0) hI r2 r3 (by omega) p1) ?_
      rintro _ _ ⟨α682, rfl, hI683, hG684, v680, rfl, hv680, hx681⟩
      have hF685 : qFr [] [53, 57, 59, 60, 61, 62, 63, 85] σ α σ α682 := qFr_t hF0 hG684 (by decide) (by decide)
      show qr_W (qe L xs vb) (d + 3) qx_e90 _ (32, _, [.int (qz v680)], qw σ α682 κ ρ, 0, 0)
      refine qr_bipush 34 rfl (by decide) rfl ?_
      refine qr_idiv 35 rfl (qrg hv680 (by decide) (by decide)) (by decide) rfl ?_
      refine qr_istore _ 37 rfl (by decide) rfl rfl ?_
      refine qr_aload_n 38 rfl rfl rfl ?_
      refine qr_get 41 rfl rfl rfl (by decide) rfl ?_
      refine qr_iconst 42 rfl rfl ?_
      refine qr_iload 44 rfl rfl rfl ?_
      refine qr_bipush 46 rfl (by decide) rfl ?_
      have hJ695 : ∀ (ls : qm_L) (u693 : Int), qm_get ls 0 = some (.ref 58) → qm_get ls 2 = some (.int (qz x2)) → qm_get ls 3 = some (.int (qz x3)) → qm_get ls 4 = some (.int (qz x4)) → qm_get ls 5 = some (.long (ql x5)) → qm_get ls 7 = some (.ref 82) → qm_get ls 8 = some (.int (qz (v680 / 64))) → (0 ≤ u693 ∧ u693 ≤ 1) → qr_W (qe L xs vb) (d + 3) qx_e90 (fun r w' => ∃ α', w' = qw σ α' κ ρ ∧ qI σ α' κ ρ ∧ qFr [] [53, 57, 59, 60, 61, 62, 63, 85] σ α σ α' ∧ ∃ v : Int, r = some (.int (qz v)) ∧ ((-2147483648) ≤ v ∧ v ≤ 2147483647) ∧ qSt σ α') (54, ls, [.int (qz u693), .int (qz 0), .ref 59], qw σ α682 κ ρ, 0, 0) := by
        intro ls u693 g686 g687 g688 g689 g690 g691 g692 hf694
        refine qr_iastore 55 rfl (by decide) rfl (by decide) (by decide) rfl ?_
        refine qy_wA (qw_r α682 59 (qzu (α682 59) (0 : Int).toNat u693)) rfl (fun α696 e697 => ?_)
        have hI698 : qI σ α696 κ ρ := by rw [e697]; exact qI_r hI683 59 _ rfl (show (-2147483648) ≤ u693 ∧ u693 ≤ 2147483647 by omega)
        have hF699 : qFr [] [53, 57, 59, 60, 61, 62, 63, 85] σ α σ α696 := by rw [e697]; exact qFr_r hF685 59 _ (by decide)
        have hy700 : qSt σ α696 := qSt_c rfl (by rw [e697]; exact qw_r_ne (by decide)) (by rw [e697]; exact qw_r_ne (by decide)) hx681
        refine qr_aload_n 56 rfl g686 rfl ?_
        refine qr_get 59 rfl rfl rfl (by decide) rfl ?_
        refine qr_iconst 60 rfl rfl ?_
        refine qr_iload 62 rfl g692 rfl ?_
        refine qr_iastore 63 rfl (by decide) rfl (by decide) (by decide) rfl ?_
        refine qy_wA (qw_r α696 59 (qzu (α696 59) (1 : Int).toNat (v680 / 64))) rfl (fun α701 e702 => ?_)
        have hI703 : qI σ α701 κ ρ := by rw [e702]; exact qI_r hI698 59 _ rfl (show (-2147483648) ≤ (v680 / 64) ∧ (v680 / 64) ≤ 2147483647 by omega)
        have hF704 : qFr [] [53, 57, 59, 60, 61, 62, 63, 85] σ α σ α701 := by rw [e702]; exact qFr_r hF699 59 _ (by decide)
        have hy705 : qSt σ α701 := qSt_c rfl (by rw [e702]; exact qw_r_ne (by decide)) (by rw [e702]; exact qw_r_ne (by decide)) hy700
        exact hJ553 _ α701 g686 g687 g688 g689 g690 g691 hI703 hF704 hy705
      refine qr_icmp_ge 53 49 rfl rfl rfl (by omega) (by decide) (fun h706 => ?_) (fun h706 => ?_)
      · skip
        refine qr_iconst 54 rfl rfl ?_
        exact hJ695 _ 0 rfl rfl rfl rfl rfl rfl rfl (by decide)
      · skip
        refine qr_iconst 50 rfl rfl ?_
        refine qr_goto 54 rfl rfl ?_
        exact hJ695 _ 1 rfl rfl rfl rfl rfl rfl rfl (by decide)
    · skip
      refine qr_aload 19 rfl rfl rfl ?_
      refine qr_iconst 20 rfl rfl ?_
      refine qr_callN 23 rfl rfl rfl (sf_91_82 (d := d + 1) hI (by decide)) ?_
      rintro _ _ ⟨rfl, v707, rfl, hv707⟩
      show qr_W (qe L xs vb) (d + 3) qx_e90 _ (23, _, [.int (qz v707)], qw σ α κ ρ, 0, 0)
      refine qr_if_eq 63 26 rfl rfl rfl (qrg hv707 (by decide) (by decide)) (fun h708 => ?_) (fun h708 => ?_)
      · skip
        exact hJ553 _ α rfl rfl rfl rfl rfl rfl hI hF0 p1
      · skip
        refine qr_aload_n 27 rfl rfl rfl ?_
        refine qr_iload_n 28 rfl rfl rfl ?_
        refine qr_iload_n 29 rfl rfl rfl ?_
        refine qr_callN 32 rfl rfl rfl (sf_92_58s (d := d + 0) hI r2 r3 (by omega) p1) ?_
        rintro _ _ ⟨α711, rfl, hI712, hG713, v709, rfl, hv709, hx710⟩
        have hF714 : qFr [] [53, 57, 59, 60, 61, 62, 63, 85] σ α σ α711 := qFr_t hF0 hG713 (by decide) (by decide)
        show qr_W (qe L xs vb) (d + 3) qx_e90 _ (32, _, [.int (qz v709)], qw σ α711 κ ρ, 0, 0)
        refine qr_bipush 34 rfl (by decide) rfl ?_
        refine qr_idiv 35 rfl (qrg hv709 (by decide) (by decide)) (by decide) rfl ?_
        refine qr_istore _ 37 rfl (by decide) rfl rfl ?_
        refine qr_aload_n 38 rfl rfl rfl ?_
        refine qr_get 41 rfl rfl rfl (by decide) rfl ?_
        refine qr_iconst 42 rfl rfl ?_
        refine qr_iload 44 rfl rfl rfl ?_
        refine qr_bipush 46 rfl (by decide) rfl ?_
        have hJ724 : ∀ (ls : qm_L) (u722 : Int), qm_get ls 0 = some (.ref 58) → qm_get ls 2 = some (.int (qz x2)) → qm_get ls 3 = some (.int (qz x3)) → qm_get ls 4 = some (.int (qz x4)) → qm_get ls 5 = some (.long (ql x5)) → qm_get ls 7 = some (.ref 82) → qm_get ls 8 = some (.int (qz (v709 / 64))) → (0 ≤ u722 ∧ u722 ≤ 1) → qr_W (qe L xs vb) (d + 3) qx_e90 (fun r w' => ∃ α', w' = qw σ α' κ ρ ∧ qI σ α' κ ρ ∧ qFr [] [53, 57, 59, 60, 61, 62, 63, 85] σ α σ α' ∧ ∃ v : Int, r = some (.int (qz v)) ∧ ((-2147483648) ≤ v ∧ v ≤ 2147483647) ∧ qSt σ α') (54, ls, [.int (qz u722), .int (qz 0), .ref 59], qw σ α711 κ ρ, 0, 0) := by
          intro ls u722 g715 g716 g717 g718 g719 g720 g721 hf723
          refine qr_iastore 55 rfl (by decide) rfl (by decide) (by decide) rfl ?_
          refine qy_wA (qw_r α711 59 (qzu (α711 59) (0 : Int).toNat u722)) rfl (fun α725 e726 => ?_)
          have hI727 : qI σ α725 κ ρ := by rw [e726]; exact qI_r hI712 59 _ rfl (show (-2147483648) ≤ u722 ∧ u722 ≤ 2147483647 by omega)
          have hF728 : qFr [] [53, 57, 59, 60, 61, 62, 63, 85] σ α σ α725 := by rw [e726]; exact qFr_r hF714 59 _ (by decide)
          have hy729 : qSt σ α725 := qSt_c rfl (by rw [e726]; exact qw_r_ne (by decide)) (by rw [e726]; exact qw_r_ne (by decide)) hx710
          refine qr_aload_n 56 rfl g715 rfl ?_
          refine qr_get 59 rfl rfl rfl (by decide) rfl ?_
          refine qr_iconst 60 rfl rfl ?_
          refine qr_iload 62 rfl g721 rfl ?_
          refine qr_iastore 63 rfl (by decide) rfl (by decide) (by decide) rfl ?_
          refine qy_wA (qw_r α725 59 (qzu (α725 59) (1 : Int).toNat (v709 / 64))) rfl (fun α730 e731 => ?_)
          have hI732 : qI σ α730 κ ρ := by rw [e731]; exact qI_r hI727 59 _ rfl (show (-2147483648) ≤ (v709 / 64) ∧ (v709 / 64) ≤ 2147483647 by omega)
          have hF733 : qFr [] [53, 57, 59, 60, 61, 62, 63, 85] σ α σ α730 := by rw [e731]; exact qFr_r hF728 59 _ (by decide)
          have hy734 : qSt σ α730 := qSt_c rfl (by rw [e731]; exact qw_r_ne (by decide)) (by rw [e731]; exact qw_r_ne (by decide)) hy729
          exact hJ553 _ α730 g715 g716 g717 g718 g719 g720 hI732 hF733 hy734
        refine qr_icmp_ge 53 49 rfl rfl rfl (by omega) (by decide) (fun h735 => ?_) (fun h735 => ?_)
        · skip
          refine qr_iconst 54 rfl rfl ?_
          exact hJ724 _ 0 rfl rfl rfl rfl rfl rfl rfl (by decide)
        · skip
          refine qr_iconst 50 rfl rfl ?_
          refine qr_goto 54 rfl rfl ?_
          exact hJ724 _ 1 rfl rfl rfl rfl rfl rfl rfl (by decide)

set_option maxHeartbeats 4000000 in
set_option maxRecDepth 20000 in
/-- OneRoof$Moment.firstStrike -/
theorem sf_104_58s {L : Nat} {xs : Nat → Int} {vb : Bool} {d : Nat} {σ α : Nat → Nat → Int} {κ : Nat → Option Nat} {ρ : Nat} {x1 : Int} (hI : qI σ α κ ρ) (r1 : (-9223372036854775808) ≤ x1 ∧ x1 ≤ 9223372036854775807) (p0 : qSt σ α) : qm_T (qe L xs vb) (d + 5) 104 [.ref 58, .long (ql x1)] (qw σ α κ ρ) (fun r w' => ∃ α', w' = qw σ α' κ ρ ∧ qI σ α' κ ρ ∧ qFr [] [53, 57, 59, 60, 61, 62, 63, 85] σ α σ α' ∧ ∃ v : Int, r = some (.int (qz v)) ∧ ((-1) ≤ v ∧ v ≤ 3131) ∧ (v = -1 ∨ (0 ≤ v ∧ v / 100 ≤ 31 ∧ v % 100 ≤ 31 ∧ ¬ v / 100 = v % 100)) ∧ qSt σ α') := by
  refine qr_start (d := d + 4) qv_e104 (Nat.le_of_ble_eq_true rfl) ?_
  show qr_W (qe L xs vb) (d + 4) qx_e104 _ (0, [(0, .ref 58), (1, .long (ql x1))], [], _, 0, 0)
  have hF0 := qFr_rf [] [53, 57, 59, 60, 61, 62, 63, 85] σ α
  refine qr_iconst 1 rfl rfl ?_
  refine qr_istore_n _ 2 rfl (by decide) rfl rfl ?_
  have hL2734 : ∀ (n : Nat) (ls : qm_L) (u2727 : Int) (α2729 : Nat → Nat → Int), 32 - u2727 < (n : Int) → qm_get ls 0 = some (.ref 58) → qm_get ls 1 = some (.long (ql x1)) → qm_get ls 3 = some (.int (qz u2727)) → (0 ≤ u2727 ∧ u2727 ≤ 32) → qI σ α2729 κ ρ → qFr [] [53, 57, 59, 60, 61, 62, 63, 85] σ α σ α2729 → qSt σ α2729 → qr_W (qe L xs vb) (d + 4) qx_e104 (fun r w' => ∃ α', w' = qw σ α' κ ρ ∧ qI σ α' κ ρ ∧ qFr [] [53, 57, 59, 60, 61, 62, 63, 85] σ α σ α' ∧ ∃ v : Int, r = some (.int (qz v)) ∧ ((-1) ≤ v ∧ v ≤ 3131) ∧ (v = -1 ∨ (0 ≤ v ∧ v / 100 ≤ 31 ∧ v % 100 ≤ 31 ∧ ¬ v / 100 = v % 100)) ∧ qSt σ α') (2, ls, [], qw σ α2729 κ ρ, 0, 0) := by
    intro n
    induction n with
    | zero => intro ls u2727 α2729 hm g2724 g2725 g2726 hf2732 hI2730 hF2731 hx2733; exact False.elim (by omega)
    | succ n ih2735 =>
      intro ls u2727 α2729 hm g2724 g2725 g2726 hf2732 hI2730 hF2731 hx2733
      refine qr_iload_n 3 rfl g2726 rfl ?_
      refine qr_aload_n 4 rfl g2724 rfl ?_
      refine qr_get 7 rfl rfl rfl (by decide) rfl ?_
      refine qr_get 10 rfl rfl rfl (by decide) rfl ?_
      have hs2736 : 0 ≤ σ 17 6 ∧ σ 17 6 ≤ 32 := hI2730.1 17 6
      refine qr_icmp_ge 87 13 rfl rfl rfl (qrg hf2732 (by decide) (by decide)) (qrg hs2736 (by decide) (by decide)) (fun h2737 => ?_) (fun h2737 => ?_)
      · skip
        refine qr_iconst 88 rfl rfl ?_
        refine qr_retI rfl rfl (by decide) (by decide) ?_
        exact ⟨_, rfl, hI2730, hF2731, (-1), rfl, (by decide), by omega, hx2733⟩
      · skip
        refine qr_lload_n 14 rfl g2725 rfl ?_
        refine qr_iload_n 15 rfl g2726 rfl ?_
        refine qr_callN 18 rfl rfl rfl (sf_50 (d := d + 3) hI2730 r1 (qrg hf2732 (by decide) (by decide))) ?_
        rintro _ _ ⟨rfl, v2738, rfl, hv2738⟩
        show qr_W (qe L xs vb) (d + 4) qx_e104 _ (18, _, [.int (qz v2738)], qw σ α2729 κ ρ, 0, 0)
        refine qr_if_ne 24 21 rfl rfl rfl (qrg hv2738 (by decide) (by decide)) (fun h2739 => ?_) (fun h2739 => ?_)
        · skip
          refine qr_iconst 25 rfl rfl ?_
          refine qr_istore _ 27 rfl (by decide) rfl rfl ?_
          have hL2916 : ∀ (n : Nat) (ls : qm_L) (u2909 : Int) (α2911 : Nat → Nat → Int), 32 - u2909 < (n : Int) → qm_get ls 0 = some (.ref 58) → qm_get ls 1 = some (.long (ql x1)) → qm_get ls 3 = some (.int (qz u2727)) → qm_get ls 4 = some (.int (qz u2909)) → (0 ≤ u2909 ∧ u2909 ≤ 32) → qI σ α2911 κ ρ → qFr [] [53, 57, 59, 60, 61, 62, 63, 85] σ α σ α2911 → qSt σ α2911 → qr_W (qe L xs vb) (d + 4) qx_e104 (fun r w' => ∃ α', w' = qw σ α' κ ρ ∧ qI σ α' κ ρ ∧ qFr [] [53, 57, 59, 60, 61, 62, 63, 85] σ α σ α' ∧ ∃ v : Int, r = some (.int (qz v)) ∧ ((-1) ≤ v ∧ v ≤ 3131) ∧ (v = -1 ∨ (0 ≤ v ∧ v / 100 ≤ 31 ∧ v % 100 ≤ 31 ∧ ¬ v / 100 = v % 100)) ∧ qSt σ α') (27, ls, [], qw σ α2911 κ ρ, 0, 0) := by
            intro n
            induction n with
            | zero => intro ls u2909 α2911 hm g2905 g2906 g2907 g2908 hf2914 hI2912 hF2913 hx2915; exact False.elim (by omega)
            | succ n ih2917 =>
              intro ls u2909 α2911 hm g2905 g2906 g2907 g2908 hf2914 hI2912 hF2913 hx2915
              refine qr_iload 29 rfl g2908 rfl ?_
              refine qr_aload_n 30 rfl g2905 rfl ?_
              refine qr_get 33 rfl rfl rfl (by decide) rfl ?_
              refine qr_get 36 rfl rfl rfl (by decide) rfl ?_
              refine qr_icmp_ge 81 39 rfl rfl rfl (qrg hf2914 (by decide) (by decide)) (qrg hs2736 (by decide) (by decide)) (fun h2918 => ?_) (fun h2918 => ?_)
              · skip
                refine qr_iinc _ 84 rfl g2907 (by decide) rfl rfl ?_
                refine qr_goto 2 rfl rfl ?_
                exact ih2735 _ (u2727 + 1) α2911 (by omega) (qm_gk g2905 (by decide) (Or.inl (by decide))) (qm_gk g2906 (by decide) (Or.inl (by decide))) (qm_ge _ _ _) (by omega) hI2912 hF2913 hx2915
              · skip
                refine qr_iload_n 40 rfl g2907 rfl ?_
                refine qr_iload 42 rfl g2908 rfl ?_
                refine qr_icmp_eq 75 45 rfl rfl rfl (qrg hf2732 (by decide) (by decide)) (qrg hf2914 (by decide) (by decide)) (fun h2919 => ?_) (fun h2919 => ?_)
                · skip
                  refine qr_iinc _ 78 rfl g2908 (by decide) rfl rfl ?_
                  refine qr_goto 27 rfl rfl ?_
                  exact ih2917 _ (u2909 + 1) α2911 (by omega) (qm_gk g2905 (by decide) (Or.inl (by decide))) (qm_gk g2906 (by decide) (Or.inl (by decide))) (qm_gk g2907 (by decide) (Or.inr rfl)) (qm_ge _ _ _) (by omega) hI2912 hF2913 hx2915
                · skip
                  refine qr_lload_n 46 rfl g2906 rfl ?_
                  refine qr_iload 48 rfl g2908 rfl ?_
                  refine qr_callN 51 rfl rfl rfl (sf_50 (d := d + 3) hI2912 r1 (qrg hf2914 (by decide) (by decide))) ?_
                  rintro _ _ ⟨rfl, v2920, rfl, hv2920⟩
                  show qr_W (qe L xs vb) (d + 4) qx_e104 _ (51, _, [.int (qz v2920)], qw σ α2911 κ ρ, 0, 0)
                  refine qr_if_eq 75 54 rfl rfl rfl (qrg hv2920 (by decide) (by decide)) (fun h2921 => ?_) (fun h2921 => ?_)
                  · skip
                    refine qr_iinc _ 78 rfl g2908 (by decide) rfl rfl ?_
                    refine qr_goto 27 rfl rfl ?_
                    exact ih2917 _ (u2909 + 1) α2911 (by omega) (qm_gk g2905 (by decide) (Or.inl (by decide))) (qm_gk g2906 (by decide) (Or.inl (by decide))) (qm_gk g2907 (by decide) (Or.inr rfl)) (qm_ge _ _ _) (by omega) hI2912 hF2913 hx2915
                  · skip
                    refine qr_aload_n 55 rfl g2905 rfl ?_
                    refine qr_iconst 56 rfl rfl ?_
                    refine qr_iload_n 57 rfl g2907 rfl ?_
                    refine qr_iload 59 rfl g2908 rfl ?_
                    refine qr_iconst 60 rfl rfl ?_
                    refine qr_lload_n 61 rfl g2906 rfl ?_
                    refine qr_callN 64 rfl rfl rfl (sf_90_58s (d := d + 0) hI2912 (by decide) (by omega) (by omega) (by decide) r1 (by omega) hx2915) ?_
                    rintro _ _ ⟨α2924, rfl, hI2925, hG2926, v2922, rfl, hv2922, hx2923⟩
                    have hF2927 : qFr [] [53, 57, 59, 60, 61, 62, 63, 85] σ α σ α2924 := qFr_t hF2913 hG2926 (by decide) (by decide)
                    show qr_W (qe L xs vb) (d + 4) qx_e104 _ (64, _, [.int (qz v2922)], qw σ α2924 κ ρ, 0, 0)
                    refine qr_if_eq 75 67 rfl rfl rfl hv2922 (fun h2928 => ?_) (fun h2928 => ?_)
                    · skip
                      refine qr_iinc _ 78 rfl g2908 (by decide) rfl rfl ?_
                      refine qr_goto 27 rfl rfl ?_
                      exact ih2917 _ (u2909 + 1) α2924 (by omega) (qm_gk g2905 (by decide) (Or.inl (by decide))) (qm_gk g2906 (by decide) (Or.inl (by decide))) (qm_gk g2907 (by decide) (Or.inr rfl)) (qm_ge _ _ _) (by omega) hI2925 hF2927 hx2923
                    · skip
                      refine qr_bipush 69 rfl (by decide) rfl ?_
                      refine qr_iload_n 70 rfl g2907 rfl ?_
                      refine qr_imul 71 rfl rfl ?_
                      refine qr_iload 73 rfl g2908 rfl ?_
                      refine qr_iadd 74 rfl rfl ?_
                      refine qr_retI rfl rfl (by decide) (by decide) ?_
                      exact ⟨_, rfl, hI2925, hF2927, ((100 * u2727) + u2909), rfl, (by omega), by omega, hx2923⟩
          exact hL2916 ((32 - 0 + 1 : Int)).toNat _ 0 α2729 (by omega) (qm_gk g2724 (by decide) (Or.inl (by decide))) (qm_gk g2725 (by decide) (Or.inl (by decide))) (qm_gk g2726 (by decide) (Or.inr rfl)) (qm_ge _ _ _) (by decide) hI2730 hF2731 hx2733
        · skip
          refine qr_goto 81 rfl rfl ?_
          refine qr_iinc _ 84 rfl g2726 (by decide) rfl rfl ?_
          refine qr_goto 2 rfl rfl ?_
          exact ih2735 _ (u2727 + 1) α2729 (by omega) (qm_gk g2724 (by decide) (Or.inl (by decide))) (qm_gk g2725 (by decide) (Or.inl (by decide))) (qm_ge _ _ _) (by omega) hI2730 hF2731 hx2733
  exact hL2734 ((32 - 0 + 1 : Int)).toNat _ 0 α (by omega) rfl rfl rfl (by decide) hI hF0 p0

set_option maxHeartbeats 4000000 in
set_option maxRecDepth 20000 in
/-- OneRoof$Moment.mustAlone -/
theorem sf_107_58s {L : Nat} {xs : Nat → Int} {vb : Bool} {d : Nat} {σ α : Nat → Nat → Int} {κ : Nat → Option Nat} {ρ : Nat} {x1 : Int} {x2 : Int} (hI : qI σ α κ ρ) (r1 : 0 ≤ x1 ∧ x1 ≤ 31) (r2 : 0 ≤ x2 ∧ x2 ≤ 31) (p0 : ¬ x1 = x2) (p1 : qSt σ α) : qm_T (qe L xs vb) (d + 5) 107 [.ref 58, .int (qz x1), .int (qz x2)] (qw σ α κ ρ) (fun r w' => ∃ α', w' = qw σ α' κ ρ ∧ qI σ α' κ ρ ∧ qFr [] [53, 57, 59, 60, 61, 62, 63, 85] σ α σ α' ∧ ∃ v : Int, r = some (.int (qz v)) ∧ (0 ≤ v ∧ v ≤ 1) ∧ qSt σ α') := by
  refine qr_start (d := d + 4) qv_e107 (Nat.le_of_ble_eq_true rfl) ?_
  show qr_W (qe L xs vb) (d + 4) qx_e107 _ (0, [(0, .ref 58), (1, .int (qz x1)), (2, .int (qz x2))], [], _, 0, 0)
  have hF0 := qFr_rf [] [53, 57, 59, 60, 61, 62, 63, 85] σ α
  refine qr_aload_n 1 rfl rfl rfl ?_
  refine qr_iconst 2 rfl rfl ?_
  refine qr_iload_n 3 rfl rfl rfl ?_
  refine qr_iload_n 4 rfl rfl rfl ?_
  refine qr_iconst 5 rfl rfl ?_
  refine qr_lconst 6 rfl rfl ?_
  refine qy_vl 1 rfl ?_
  refine qr_iload_n 7 rfl rfl rfl ?_
  refine qr_lshl 8 rfl rfl ?_
  refine qy_canl (fun v1 hv1 => ?_)
  refine qr_lconst 9 rfl rfl ?_
  refine qy_vl 1 rfl ?_
  refine qr_iload_n 10 rfl rfl rfl ?_
  refine qr_lshl 11 rfl rfl ?_
  refine qy_canl (fun v2 hv2 => ?_)
  refine qr_lor 12 rfl rfl ?_
  refine qy_canl (fun v3 hv3 => ?_)
  refine qr_callN 15 rfl rfl rfl (sf_90_58s (d := d + 0) hI (by decide) r1 r2 (by decide) hv3 (by omega) p1) ?_
  rintro _ _ ⟨α6, rfl, hI7, hG8, v4, rfl, hv4, hx5⟩
  have hF9 : qFr [] [53, 57, 59, 60, 61, 62, 63, 85] σ α σ α6 := qFr_t hF0 hG8 (by decide) (by decide)
  show qr_W (qe L xs vb) (d + 4) qx_e107 _ (15, _, [.int (qz v4)], qw σ α6 κ ρ, 0, 0)
  refine qr_if_eq 22 18 rfl rfl rfl hv4 (fun h10 => ?_) (fun h10 => ?_)
  · skip
    refine qr_iconst 23 rfl rfl ?_
    refine qr_retZ rfl rfl (Or.inl rfl) (by decide) (by decide) ?_
    exact ⟨_, rfl, hI7, hF9, 0, rfl, (by decide), hx5⟩
  · skip
    refine qr_iconst 19 rfl rfl ?_
    refine qr_goto 23 rfl rfl ?_
    refine qr_retZ rfl rfl (Or.inr rfl) (by decide) (by decide) ?_
    exact ⟨_, rfl, hI7, hF9, 1, rfl, (by decide), hx5⟩

set_option maxHeartbeats 4000000 in
set_option maxRecDepth 20000 in
/-- OneRoof$Moment.barred -/
theorem sf_106_58s {L : Nat} {xs : Nat → Int} {vb : Bool} {d : Nat} {σ α : Nat → Nat → Int} {κ : Nat → Option Nat} {ρ : Nat} {x1 : Int} {x2 : Int} {x3 : Int} {x4 : Int} (hI : qI σ α κ ρ) (r1 : 0 ≤ x1 ∧ x1 ≤ 31) (r2 : 0 ≤ x2 ∧ x2 ≤ 31) (r3 : 0 ≤ x3 ∧ x3 ≤ 9999) (r4 : 0 ≤ x4 ∧ x4 ≤ 9999) (p0 : ¬ x1 = x2) (p1 : x4 - x3 ≤ 47) (p2 : qSt σ α) (p3 : 0 ≤ σ 58 12 ∧ σ 58 12 ≤ 1999999900) : qm_T (qe L xs vb) (d + 6) 106 [.ref 58, .int (qz x1), .int (qz x2), .int (qz x3), .int (qz x4)] (qw σ α κ ρ) (fun r w' => ∃ σ' α', w' = qw σ' α' κ ρ ∧ qI σ' α' κ ρ ∧ qFr [(58, 11), (58, 12)] [53, 57, 59, 60, 61, 62, 63, 85] σ α σ' α' ∧ σ' 58 12 ≤ σ 58 12 + 48 ∧ σ' 58 12 ≥ σ 58 12 ∧ ∃ v : Int, r = some (.int (qz v)) ∧ (0 ≤ v ∧ v ≤ 1) ∧ qSt σ' α') := by
  refine qr_start (d := d + 5) qv_e106 (Nat.le_of_ble_eq_true rfl) ?_
  show qr_W (qe L xs vb) (d + 5) qx_e106 _ (0, [(0, .ref 58), (1, .int (qz x1)), (2, .int (qz x2)), (3, .int (qz x3)), (4, .int (qz x4))], [], _, 0, 0)
  have hF0 := qFr_rf [(58, 11), (58, 12)] [53, 57, 59, 60, 61, 62, 63, 85] σ α
  have hz58_12 : (-2147483648) ≤ σ 58 12 ∧ σ 58 12 ≤ 2147483647 := hI.1 58 12
  refine qr_iload_n 1 rfl rfl rfl ?_
  refine qr_istore _ 3 rfl (by decide) rfl rfl ?_
  have hL243 : ∀ (n : Nat) (ls : qm_L) (u232 : Int) (σ233 α234 : Nat → Nat → Int), 10000 - u232 < (n : Int) → qm_get ls 0 = some (.ref 58) → qm_get ls 1 = some (.int (qz x1)) → qm_get ls 2 = some (.int (qz x2)) → qm_get ls 3 = some (.int (qz x3)) → qm_get ls 4 = some (.int (qz x4)) → qm_get ls 5 = some (.int (qz u232)) → (0 ≤ u232 ∧ u232 ≤ 10000) → qI σ233 α234 κ ρ → qFr [(58, 11), (58, 12)] [53, 57, 59, 60, 61, 62, 63, 85] σ α σ233 α234 → σ233 58 12 ≤ σ 58 12 + (u232 - x3) → σ 58 12 ≤ σ233 58 12 → (u232 = x3 ∨ u232 ≤ x4 + 1) → qSt σ233 α234 → x3 ≤ u232 → qr_W (qe L xs vb) (d + 5) qx_e106 (fun r w' => ∃ σ' α', w' = qw σ' α' κ ρ ∧ qI σ' α' κ ρ ∧ qFr [(58, 11), (58, 12)] [53, 57, 59, 60, 61, 62, 63, 85] σ α σ' α' ∧ σ' 58 12 ≤ σ 58 12 + 48 ∧ σ' 58 12 ≥ σ 58 12 ∧ ∃ v : Int, r = some (.int (qz v)) ∧ (0 ≤ v ∧ v ≤ 1) ∧ qSt σ' α') (3, ls, [], qw σ233 α234 κ ρ, 0, 0) := by
    intro n
    induction n with
    | zero => intro ls u232 σ233 α234 hm g226 g227 g228 g229 g230 g231 hf237 hI235 hF236 hx238 hx239 hx240 hx241 hx242; exact False.elim (by omega)
    | succ n ih244 =>
      intro ls u232 σ233 α234 hm g226 g227 g228 g229 g230 g231 hf237 hI235 hF236 hx238 hx239 hx240 hx241 hx242
      have hs245 : (-2147483648) ≤ σ233 58 12 ∧ σ233 58 12 ≤ 2147483647 := hI235.1 58 12
      refine qr_iload 5 rfl g231 rfl ?_
      refine qr_iload 7 rfl g230 rfl ?_
      refine qr_icmp_gt 60 10 rfl rfl rfl (qrg hf237 (by decide) (by decide)) (qrg r4 (by decide) (by decide)) (fun h246 => ?_) (fun h246 => ?_)
      · skip
        refine qr_iconst 61 rfl rfl ?_
        refine qr_retZ rfl rfl (Or.inl rfl) (by decide) (by decide) ?_
        exact ⟨_, _, rfl, hI235, hF236, (by have hw : σ233 58 12 = (σ233 58 12) := rfl; omega), (by have hw : σ233 58 12 = (σ233 58 12) := rfl; omega), 0, rfl, (by decide), hx241⟩
      · skip
        refine qr_iload 12 rfl g231 rfl ?_
        refine qr_iload_n 13 rfl g229 rfl ?_
        refine qr_icmp_le 28 16 rfl rfl rfl (qrg hf237 (by decide) (by decide)) (qrg r3 (by decide) (by decide)) (fun h247 => ?_) (fun h247 => ?_)
        · skip
          refine qr_aload_n 29 rfl g226 rfl ?_
          refine qr_iload 31 rfl g231 rfl ?_
          have hs248 : (-2147483648) ≤ σ233 58 12 ∧ σ233 58 12 ≤ 2147483647 := hI235.1 58 12
          refine qr_callN 34 rfl rfl rfl (sf_89_58s (d := d + 4) hI235 (qrg hf237 (by decide) (by decide)) hx241 (by omega)) ?_
          rintro _ _ ⟨σ251, rfl, hI252, hG253, hw250, rfl, hx249⟩
          have hF254 : qFr [(58, 11), (58, 12)] [53, 57, 59, 60, 61, 62, 63, 85] σ α σ251 α234 := qFr_t hF236 hG253 (by decide) (by decide)
          have hs255 : (-2147483648) ≤ σ251 58 12 ∧ σ251 58 12 ≤ 2147483647 := hI252.1 58 12
          show qr_W (qe L xs vb) (d + 5) qx_e106 _ (34, _, [], qw σ251 α234 κ ρ, 0, 0)
          refine qr_aload_n 35 rfl g226 rfl ?_
          refine qr_iload_n 36 rfl g227 rfl ?_
          refine qr_iload_n 37 rfl g228 rfl ?_
          refine qr_callN 40 rfl rfl rfl (sf_107_58s (d := d + 0) hI252 r1 r2 (by omega) hx249) ?_
          rintro _ _ ⟨α258, rfl, hI259, hG260, v256, rfl, hv256, hx257⟩
          have hF261 : qFr [(58, 11), (58, 12)] [53, 57, 59, 60, 61, 62, 63, 85] σ α σ251 α258 := qFr_t hF254 hG260 (by decide) (by decide)
          show qr_W (qe L xs vb) (d + 5) qx_e106 _ (40, _, [.int (qz v256)], qw σ251 α258 κ ρ, 0, 0)
          refine qr_if_ne 52 43 rfl rfl rfl (qrg hv256 (by decide) (by decide)) (fun h262 => ?_) (fun h262 => ?_)
          · skip
            refine qr_iconst 53 rfl rfl ?_
            refine qr_retZ rfl rfl (Or.inr rfl) (by decide) (by decide) ?_
            exact ⟨_, _, rfl, hI259, hF261, (by have hw : σ251 58 12 = (σ251 58 12) := rfl; omega), (by have hw : σ251 58 12 = (σ251 58 12) := rfl; omega), 1, rfl, (by decide), hx257⟩
          · skip
            refine qr_aload_n 44 rfl g226 rfl ?_
            refine qr_iload_n 45 rfl g228 rfl ?_
            refine qr_iload_n 46 rfl g227 rfl ?_
            refine qr_callN 49 rfl rfl rfl (sf_107_58s (d := d + 0) hI259 r2 r1 (by omega) hx257) ?_
            rintro _ _ ⟨α265, rfl, hI266, hG267, v263, rfl, hv263, hx264⟩
            have hF268 : qFr [(58, 11), (58, 12)] [53, 57, 59, 60, 61, 62, 63, 85] σ α σ251 α265 := qFr_t hF261 hG267 (by decide) (by decide)
            show qr_W (qe L xs vb) (d + 5) qx_e106 _ (49, _, [.int (qz v263)], qw σ251 α265 κ ρ, 0, 0)
            refine qr_if_eq 54 52 rfl rfl rfl (qrg hv263 (by decide) (by decide)) (fun h269 => ?_) (fun h269 => ?_)
            · skip
              refine qr_iinc _ 57 rfl g231 (by decide) rfl rfl ?_
              refine qr_goto 3 rfl rfl ?_
              exact ih244 _ (u232 + 1) σ251 α265 (by omega) (qm_gk g226 (by decide) (Or.inl (by decide))) (qm_gk g227 (by decide) (Or.inl (by decide))) (qm_gk g228 (by decide) (Or.inl (by decide))) (qm_gk g229 (by decide) (Or.inl (by decide))) (qm_gk g230 (by decide) (Or.inr rfl)) (qm_ge _ _ _) (by omega) hI266 hF268 (by have hw : σ251 58 12 = (σ251 58 12) := rfl; omega) (by have hw : σ251 58 12 = (σ251 58 12) := rfl; omega) (by omega) hx264 (by omega)
            · skip
              refine qr_iconst 53 rfl rfl ?_
              refine qr_retZ rfl rfl (Or.inr rfl) (by decide) (by decide) ?_
              exact ⟨_, _, rfl, hI266, hF268, (by have hw : σ251 58 12 = (σ251 58 12) := rfl; omega), (by have hw : σ251 58 12 = (σ251 58 12) := rfl; omega), 1, rfl, (by decide), hx264⟩
        · skip
          refine qr_aload_n 17 rfl g226 rfl ?_
          refine qr_iload 19 rfl g231 rfl ?_
          refine qr_callN 22 rfl rfl rfl (sf_101_58 (d := d + 3) hI235 (qrg hf237 (by decide) (by decide))) ?_
          rintro _ _ ⟨rfl, v270, rfl, hv270⟩
          show qr_W (qe L xs vb) (d + 5) qx_e106 _ (22, _, [.int (qz v270)], qw σ233 α234 κ ρ, 0, 0)
          refine qr_if_ne 28 25 rfl rfl rfl (qrg hv270 (by decide) (by decide)) (fun h271 => ?_) (fun h271 => ?_)
          · skip
            refine qr_aload_n 29 rfl g226 rfl ?_
            refine qr_iload 31 rfl g231 rfl ?_
            have hs272 : (-2147483648) ≤ σ233 58 12 ∧ σ233 58 12 ≤ 2147483647 := hI235.1 58 12
            refine qr_callN 34 rfl rfl rfl (sf_89_58s (d := d + 4) hI235 (qrg hf237 (by decide) (by decide)) hx241 (by omega)) ?_
            rintro _ _ ⟨σ275, rfl, hI276, hG277, hw274, rfl, hx273⟩
            have hF278 : qFr [(58, 11), (58, 12)] [53, 57, 59, 60, 61, 62, 63, 85] σ α σ275 α234 := qFr_t hF236 hG277 (by decide) (by decide)
            have hs279 : (-2147483648) ≤ σ275 58 12 ∧ σ275 58 12 ≤ 2147483647 := hI276.1 58 12
            show qr_W (qe L xs vb) (d + 5) qx_e106 _ (34, _, [], qw σ275 α234 κ ρ, 0, 0)
            refine qr_aload_n 35 rfl g226 rfl ?_
            refine qr_iload_n 36 rfl g227 rfl ?_
            refine qr_iload_n 37 rfl g228 rfl ?_
            refine qr_callN 40 rfl rfl rfl (sf_107_58s (d := d + 0) hI276 r1 r2 (by omega) hx273) ?_
            rintro _ _ ⟨α282, rfl, hI283, hG284, v280, rfl, hv280, hx281⟩
            have hF285 : qFr [(58, 11), (58, 12)] [53, 57, 59, 60, 61, 62, 63, 85] σ α σ275 α282 := qFr_t hF278 hG284 (by decide) (by decide)
            show qr_W (qe L xs vb) (d + 5) qx_e106 _ (40, _, [.int (qz v280)], qw σ275 α282 κ ρ, 0, 0)
            refine qr_if_ne 52 43 rfl rfl rfl (qrg hv280 (by decide) (by decide)) (fun h286 => ?_) (fun h286 => ?_)
            · skip
              refine qr_iconst 53 rfl rfl ?_
              refine qr_retZ rfl rfl (Or.inr rfl) (by decide) (by decide) ?_
              exact ⟨_, _, rfl, hI283, hF285, (by have hw : σ275 58 12 = (σ275 58 12) := rfl; omega), (by have hw : σ275 58 12 = (σ275 58 12) := rfl; omega), 1, rfl, (by decide), hx281⟩
            · skip
              refine qr_aload_n 44 rfl g226 rfl ?_
              refine qr_iload_n 45 rfl g228 rfl ?_
              refine qr_iload_n 46 rfl g227 rfl ?_
              refine qr_callN 49 rfl rfl rfl (sf_107_58s (d := d + 0) hI283 r2 r1 (by omega) hx281) ?_
              rintro _ _ ⟨α289, rfl, hI290, hG291, v287, rfl, hv287, hx288⟩
              have hF292 : qFr [(58, 11), (58, 12)] [53, 57, 59, 60, 61, 62, 63, 85] σ α σ275 α289 := qFr_t hF285 hG291 (by decide) (by decide)
              show qr_W (qe L xs vb) (d + 5) qx_e106 _ (49, _, [.int (qz v287)], qw σ275 α289 κ ρ, 0, 0)
              refine qr_if_eq 54 52 rfl rfl rfl (qrg hv287 (by decide) (by decide)) (fun h293 => ?_) (fun h293 => ?_)
              · skip
                refine qr_iinc _ 57 rfl g231 (by decide) rfl rfl ?_
                refine qr_goto 3 rfl rfl ?_
                exact ih244 _ (u232 + 1) σ275 α289 (by omega) (qm_gk g226 (by decide) (Or.inl (by decide))) (qm_gk g227 (by decide) (Or.inl (by decide))) (qm_gk g228 (by decide) (Or.inl (by decide))) (qm_gk g229 (by decide) (Or.inl (by decide))) (qm_gk g230 (by decide) (Or.inr rfl)) (qm_ge _ _ _) (by omega) hI290 hF292 (by have hw : σ275 58 12 = (σ275 58 12) := rfl; omega) (by have hw : σ275 58 12 = (σ275 58 12) := rfl; omega) (by omega) hx288 (by omega)
              · skip
                refine qr_iconst 53 rfl rfl ?_
                refine qr_retZ rfl rfl (Or.inr rfl) (by decide) (by decide) ?_
                exact ⟨_, _, rfl, hI290, hF292, (by have hw : σ275 58 12 = (σ275 58 12) := rfl; omega), (by have hw : σ275 58 12 = (σ275 58 12) := rfl; omega), 1, rfl, (by decide), hx288⟩
          · skip
            refine qr_goto 54 rfl rfl ?_
            refine qr_iinc _ 57 rfl g231 (by decide) rfl rfl ?_
            refine qr_goto 3 rfl rfl ?_
            exact ih244 _ (u232 + 1) σ233 α234 (by omega) (qm_gk g226 (by decide) (Or.inl (by decide))) (qm_gk g227 (by decide) (Or.inl (by decide))) (qm_gk g228 (by decide) (Or.inl (by decide))) (qm_gk g229 (by decide) (Or.inl (by decide))) (qm_gk g230 (by decide) (Or.inr rfl)) (qm_ge _ _ _) (by omega) hI235 hF236 (by have hw : σ233 58 12 = (σ233 58 12) := rfl; omega) (by have hw : σ233 58 12 = (σ233 58 12) := rfl; omega) (by omega) hx241 (by omega)
  exact hL243 ((10000 - x3 + 1 : Int)).toNat _ x3 σ α (by omega) rfl rfl rfl rfl rfl rfl (qrg r3 (by decide) (by decide)) hI hF0 (by have hw : σ 58 12 = (σ 58 12) := rfl; omega) (by have hw : σ 58 12 = (σ 58 12) := rfl; omega) (by omega) p2 (by omega)

set_option maxHeartbeats 4000000 in
set_option maxRecDepth 20000 in
/-- OneRoof$Guests.learnBars -/
theorem sf_111_64s {L : Nat} {xs : Nat → Int} {vb : Bool} {d : Nat} {σ α : Nat → Nat → Int} {κ : Nat → Option Nat} {ρ : Nat} {x1 : Int} {x2 : Int} (hI : qI σ α κ ρ) (r1 : 0 ≤ x1 ∧ x1 ≤ 9999) (r2 : 0 ≤ x2 ∧ x2 ≤ 9999) (p0 : x2 - x1 ≤ 47) (p1 : qSt σ α) (p2 : 0 ≤ σ 58 12 ∧ σ 58 12 ≤ 1999990000) : qm_T (qe L xs vb) (d + 7) 111 [.ref 64, .int (qz x1), .int (qz x2)] (qw σ α κ ρ) (fun r w' => ∃ σ' α', w' = qw σ' α' κ ρ ∧ qI σ' α' κ ρ ∧ qFr [(58, 11), (58, 12)] [53, 57, 59, 60, 61, 62, 63, 66, 85] σ α σ' α' ∧ σ' 58 12 ≤ σ 58 12 + 6912 ∧ σ' 58 12 ≥ σ 58 12 ∧ r = none ∧ qSt σ' α') := by
  refine qr_start (d := d + 6) qv_e111 (Nat.le_of_ble_eq_true rfl) ?_
  show qr_W (qe L xs vb) (d + 6) qx_e111 _ (0, [(0, .ref 64), (1, .int (qz x1)), (2, .int (qz x2))], [], _, 0, 0)
  have hF0 := qFr_rf [(58, 11), (58, 12)] [53, 57, 59, 60, 61, 62, 63, 66, 85] σ α
  have hz58_12 : (-2147483648) ≤ σ 58 12 ∧ σ 58 12 ≤ 2147483647 := hI.1 58 12
  refine qr_aload_n 1 rfl rfl rfl ?_
  refine qr_get 4 rfl rfl rfl (by decide) rfl ?_
  refine qr_iconst 5 rfl rfl ?_
  refine qr_callN 8 rfl rfl rfl (sf_4_66 (d := d + 5) hI (by decide)) ?_
  rintro _ _ ⟨α1, rfl, hI2, hG3, rfl⟩
  have hF4 : qFr [(58, 11), (58, 12)] [53, 57, 59, 60, 61, 62, 63, 66, 85] σ α σ α1 := qFr_t hF0 hG3 (by decide) (by decide)
  have hy5 := qSt_fr hG3 (by decide) (by decide) p1
  show qr_W (qe L xs vb) (d + 6) qx_e111 _ (8, _, [], qw σ α1 κ ρ, 0, 0)
  refine qr_iconst 9 rfl rfl ?_
  refine qr_istore_n _ 10 rfl (by decide) rfl rfl ?_
  have hL11340 : ∀ (n : Nat) (ls : qm_L) (u11331 : Int) (σ11332 α11333 : Nat → Nat → Int), 12 - u11331 < (n : Int) → qm_get ls 0 = some (.ref 64) → qm_get ls 1 = some (.int (qz x1)) → qm_get ls 2 = some (.int (qz x2)) → qm_get ls 3 = some (.int (qz u11331)) → (0 ≤ u11331 ∧ u11331 ≤ 12) → qI σ11332 α11333 κ ρ → qFr [(58, 11), (58, 12)] [53, 57, 59, 60, 61, 62, 63, 66, 85] σ α σ11332 α11333 → σ11332 58 12 ≤ σ 58 12 + 576 * u11331 → σ 58 12 ≤ σ11332 58 12 → qSt σ11332 α11333 → qr_W (qe L xs vb) (d + 6) qx_e111 (fun r w' => ∃ σ' α', w' = qw σ' α' κ ρ ∧ qI σ' α' κ ρ ∧ qFr [(58, 11), (58, 12)] [53, 57, 59, 60, 61, 62, 63, 66, 85] σ α σ' α' ∧ σ' 58 12 ≤ σ 58 12 + 6912 ∧ σ' 58 12 ≥ σ 58 12 ∧ r = none ∧ qSt σ' α') (10, ls, [], qw σ11332 α11333 κ ρ, 0, 0) := by
    intro n
    induction n with
    | zero => intro ls u11331 σ11332 α11333 hm g11327 g11328 g11329 g11330 hf11336 hI11334 hF11335 hx11337 hx11338 hx11339; exact False.elim (by omega)
    | succ n ih11341 =>
      intro ls u11331 σ11332 α11333 hm g11327 g11328 g11329 g11330 hf11336 hI11334 hF11335 hx11337 hx11338 hx11339
      have hs11342 : (-2147483648) ≤ σ11332 58 12 ∧ σ11332 58 12 ≤ 2147483647 := hI11334.1 58 12
      refine qr_iload_n 11 rfl g11330 rfl ?_
      refine qr_aload_n 12 rfl g11327 rfl ?_
      refine qr_get 15 rfl rfl rfl (by decide) rfl ?_
      have hs11343 : 0 ≤ σ11332 64 2 ∧ σ11332 64 2 ≤ 12 := hI11334.1 64 2
      refine qr_icmp_ge 98 18 rfl rfl rfl (qrg hf11336 (by decide) (by decide)) (qrg hs11343 (by decide) (by decide)) (fun h11344 => ?_) (fun h11344 => ?_)
      · skip
        refine qr_retV rfl rfl (by decide) (by decide) ?_
        exact ⟨_, _, rfl, hI11334, hF11335, (by have hw : σ11332 58 12 = (σ11332 58 12) := rfl; omega), (by have hw : σ11332 58 12 = (σ11332 58 12) := rfl; omega), rfl, hx11339⟩
      · skip
        refine qr_iload_n 19 rfl g11330 rfl ?_
        refine qr_iconst 20 rfl rfl ?_
        refine qr_iadd 21 rfl rfl ?_
        refine qr_istore _ 23 rfl (by decide) rfl rfl ?_
        have hL11885 : ∀ (n : Nat) (ls : qm_L) (u11874 : Int) (σ11875 α11876 : Nat → Nat → Int), 12 - u11874 < (n : Int) → qm_get ls 0 = some (.ref 64) → qm_get ls 1 = some (.int (qz x1)) → qm_get ls 2 = some (.int (qz x2)) → qm_get ls 3 = some (.int (qz u11331)) → qm_get ls 4 = some (.int (qz u11874)) → (1 ≤ u11874 ∧ u11874 ≤ 12) → qI σ11875 α11876 κ ρ → qFr [(58, 11), (58, 12)] [53, 57, 59, 60, 61, 62, 63, 66, 85] σ α σ11875 α11876 → σ11875 64 2 = (σ11332 64 2) → σ11875 58 12 ≤ σ 58 12 + 576 * u11331 + 48 * u11874 → σ 58 12 ≤ σ11875 58 12 → qSt σ11875 α11876 → (u11331 + 1) ≤ u11874 → qr_W (qe L xs vb) (d + 6) qx_e111 (fun r w' => ∃ σ' α', w' = qw σ' α' κ ρ ∧ qI σ' α' κ ρ ∧ qFr [(58, 11), (58, 12)] [53, 57, 59, 60, 61, 62, 63, 66, 85] σ α σ' α' ∧ σ' 58 12 ≤ σ 58 12 + 6912 ∧ σ' 58 12 ≥ σ 58 12 ∧ r = none ∧ qSt σ' α') (23, ls, [], qw σ11875 α11876 κ ρ, 0, 0) := by
          intro n
          induction n with
          | zero => intro ls u11874 σ11875 α11876 hm g11869 g11870 g11871 g11872 g11873 hf11880 hI11877 hF11878 hk11879 hx11881 hx11882 hx11883 hx11884; exact False.elim (by omega)
          | succ n ih11886 =>
            intro ls u11874 σ11875 α11876 hm g11869 g11870 g11871 g11872 g11873 hf11880 hI11877 hF11878 hk11879 hx11881 hx11882 hx11883 hx11884
            have hs11887 : (-2147483648) ≤ σ11875 58 12 ∧ σ11875 58 12 ≤ 2147483647 := hI11877.1 58 12
            refine qr_iload 25 rfl g11873 rfl ?_
            refine qr_aload_n 26 rfl g11869 rfl ?_
            refine qr_get 29 rfl rfl rfl (by decide) rfl ?_
            refine qy_v (σ11332 64 2) ((hk11879).trans rfl) ?_
            refine qr_icmp_ge 92 32 rfl rfl rfl (qrg hf11880 (by decide) (by decide)) (qrg hs11343 (by decide) (by decide)) (fun h11951 => ?_) (fun h11951 => ?_)
            · skip
              refine qr_iinc _ 95 rfl g11872 (by decide) rfl rfl ?_
              refine qr_goto 10 rfl rfl ?_
              exact ih11341 _ (u11331 + 1) σ11875 α11876 (by omega) (qm_gk g11869 (by decide) (Or.inl (by decide))) (qm_gk g11870 (by decide) (Or.inl (by decide))) (qm_gk g11871 (by decide) (Or.inr rfl)) (qm_ge _ _ _) (by omega) hI11877 hF11878 (by have hw : σ11875 58 12 = (σ11875 58 12) := rfl; omega) (by have hw : σ11875 58 12 = (σ11875 58 12) := rfl; omega) hx11883
            · skip
              refine qr_aload_n 33 rfl g11869 rfl ?_
              refine qr_get 36 rfl rfl rfl (by decide) rfl ?_
              refine qr_aload_n 37 rfl g11869 rfl ?_
              refine qr_get 40 rfl rfl rfl (by decide) rfl ?_
              refine qr_iload_n 41 rfl g11872 rfl ?_
              refine qr_iaload 42 rfl rfl (by omega) (by decide) rfl ?_
              refine qr_topI (fun v11952 hv11952 => ?_)
              have hs11953 : 0 ≤ v11952 ∧ v11952 ≤ 31 := by rw [hv11952]; exact hI11877.2.1 65 _ (show _ < 12 by omega)
              have hs11954 : σ11875 64 2 = (σ11332 64 2) := (hk11879).trans rfl
              refine qr_aload_n 43 rfl g11869 rfl ?_
              refine qr_get 46 rfl rfl rfl (by decide) rfl ?_
              refine qr_iload 48 rfl g11873 rfl ?_
              refine qr_iaload 49 rfl rfl (by omega) (by decide) rfl ?_
              refine qr_topI (fun v11955 hv11955 => ?_)
              have hs11956 : 0 ≤ v11955 ∧ v11955 ≤ 31 := by rw [hv11955]; exact hI11877.2.1 65 _ (show _ < 12 by omega)
              have hs11957 : σ11875 64 2 = (σ11332 64 2) := (hk11879).trans rfl
              have hs11958 := qI_li hI11877 (u11331) (u11874)
              refine qr_iload_n 50 rfl g11870 rfl ?_
              refine qr_iload_n 51 rfl g11871 rfl ?_
              have hs11959 : (-2147483648) ≤ σ11875 58 12 ∧ σ11875 58 12 ≤ 2147483647 := hI11877.1 58 12
              refine qr_callN 54 rfl rfl rfl (sf_106_58s (d := d + 0) hI11877 hs11953 hs11956 r1 r2 (by omega) (by omega) hx11883 (by omega)) ?_
              rintro _ _ ⟨σ11964, α11965, rfl, hI11966, hG11967, hw11962, hw11963, v11960, rfl, hv11960, hx11961⟩
              have hF11968 : qFr [(58, 11), (58, 12)] [53, 57, 59, 60, 61, 62, 63, 66, 85] σ α σ11964 α11965 := qFr_t hF11878 hG11967 (by decide) (by decide)
              have hs11969 : (-2147483648) ≤ σ11964 58 12 ∧ σ11964 58 12 ≤ 2147483647 := hI11966.1 58 12
              show qr_W (qe L xs vb) (d + 6) qx_e111 _ (54, _, [.int (qz v11960)], qw σ11964 α11965 κ ρ, 0, 0)
              have hJ11998 : ∀ (ls : qm_L) (α11994 : Nat → Nat → Int), qm_get ls 0 = some (.ref 64) → qm_get ls 1 = some (.int (qz x1)) → qm_get ls 2 = some (.int (qz x2)) → qm_get ls 3 = some (.int (qz u11331)) → qm_get ls 4 = some (.int (qz u11874)) → qI σ11964 α11994 κ ρ → qFr [(58, 11), (58, 12)] [53, 57, 59, 60, 61, 62, 63, 66, 85] σ α σ11964 α11994 → qSt σ11964 α11994 → qr_W (qe L xs vb) (d + 6) qx_e111 (fun r w' => ∃ σ' α', w' = qw σ' α' κ ρ ∧ qI σ' α' κ ρ ∧ qFr [(58, 11), (58, 12)] [53, 57, 59, 60, 61, 62, 63, 66, 85] σ α σ' α' ∧ σ' 58 12 ≤ σ 58 12 + 6912 ∧ σ' 58 12 ≥ σ 58 12 ∧ r = none ∧ qSt σ' α') (86, ls, [], qw σ11964 α11994 κ ρ, 0, 0) := by
                intro ls α11994 g11988 g11989 g11990 g11991 g11992 hI11995 hF11996 hx11997
                refine qr_iinc _ 89 rfl g11992 (by decide) rfl rfl ?_
                refine qr_goto 23 rfl rfl ?_
                exact ih11886 _ (u11874 + 1) σ11964 α11994 (by omega) (qm_gk g11988 (by decide) (Or.inl (by decide))) (qm_gk g11989 (by decide) (Or.inl (by decide))) (qm_gk g11990 (by decide) (Or.inl (by decide))) (qm_gk g11991 (by decide) (Or.inr rfl)) (qm_ge _ _ _) (by omega) hI11995 hF11996 ((hG11967.1 64 2 (by decide)).trans ((hk11879).trans rfl)) (by have hw : σ11964 58 12 = (σ11964 58 12) := rfl; omega) (by have hw : σ11964 58 12 = (σ11964 58 12) := rfl; omega) hx11997 (by omega)
              refine qr_if_ne 60 57 rfl rfl rfl (qrg hv11960 (by decide) (by decide)) (fun h11999 => ?_) (fun h11999 => ?_)
              · skip
                refine qr_aload_n 61 rfl g11869 rfl ?_
                refine qr_get 64 rfl rfl rfl (by decide) rfl ?_
                refine qr_iload_n 65 rfl g11872 rfl ?_
                refine qr_dup2 66 rfl rfl rfl rfl ?_
                refine qr_iaload 67 rfl rfl (by omega) (by decide) rfl ?_
                refine qr_topI (fun v12000 hv12000 => ?_)
                have hs12001 : (-2147483648) ≤ v12000 ∧ v12000 ≤ 2147483647 := by rw [hv12000]; exact hI11966.2.1 66 _ (show _ < 12 by omega)
                refine qr_iconst 68 rfl rfl ?_
                refine qr_iload 70 rfl g11873 rfl ?_
                refine qr_ishl 71 rfl rfl ?_
                refine qy_shl1 (N := 11) (by omega) (fun v12002 hv12002 => ?_)
                refine qr_ior 72 rfl rfl ?_
                refine qy_can (fun v12003 hv12003 => ?_)
                refine qr_iastore 73 rfl (by decide) rfl (by omega) (by decide) rfl ?_
                refine qy_wA (qw_r α11965 66 (qzu (α11965 66) (u11331 : Int).toNat v12003)) rfl (fun α12004 e12005 => ?_)
                have hI12006 : qI σ11964 α12004 κ ρ := by rw [e12005]; exact qI_r hI11966 66 _ rfl (show (-2147483648) ≤ v12003 ∧ v12003 ≤ 2147483647 by omega)
                have hF12007 : qFr [(58, 11), (58, 12)] [53, 57, 59, 60, 61, 62, 63, 66, 85] σ α σ11964 α12004 := by rw [e12005]; exact qFr_r hF11968 66 _ (by decide)
                have hy12008 : qSt σ11964 α12004 := qSt_c rfl (by rw [e12005]; exact qw_r_ne (by decide)) (by rw [e12005]; exact qw_r_ne (by decide)) hx11961
                refine qr_aload_n 74 rfl g11869 rfl ?_
                refine qr_get 77 rfl rfl rfl (by decide) rfl ?_
                refine qr_iload 79 rfl g11873 rfl ?_
                refine qr_dup2 80 rfl rfl rfl rfl ?_
                refine qr_iaload 81 rfl rfl (by omega) (by decide) rfl ?_
                refine qr_topI (fun v12009 hv12009 => ?_)
                have hs12010 : (-2147483648) ≤ v12009 ∧ v12009 ≤ 2147483647 := by rw [hv12009]; exact hI12006.2.1 66 _ (show _ < 12 by omega)
                refine qr_iconst 82 rfl rfl ?_
                refine qr_iload_n 83 rfl g11872 rfl ?_
                refine qr_ishl 84 rfl rfl ?_
                refine qy_shl1 (N := 11) (by omega) (fun v12011 hv12011 => ?_)
                refine qr_ior 85 rfl rfl ?_
                refine qy_can (fun v12012 hv12012 => ?_)
                refine qr_iastore 86 rfl (by decide) rfl (by omega) (by decide) rfl ?_
                refine qy_wA (qw_r α12004 66 (qzu (α12004 66) (u11874 : Int).toNat v12012)) rfl (fun α12013 e12014 => ?_)
                have hI12015 : qI σ11964 α12013 κ ρ := by rw [e12014]; exact qI_r hI12006 66 _ rfl (show (-2147483648) ≤ v12012 ∧ v12012 ≤ 2147483647 by omega)
                have hF12016 : qFr [(58, 11), (58, 12)] [53, 57, 59, 60, 61, 62, 63, 66, 85] σ α σ11964 α12013 := by rw [e12014]; exact qFr_r hF12007 66 _ (by decide)
                have hy12017 : qSt σ11964 α12013 := qSt_c rfl (by rw [e12014]; exact qw_r_ne (by decide)) (by rw [e12014]; exact qw_r_ne (by decide)) hy12008
                exact hJ11998 _ α12013 g11869 g11870 g11871 g11872 g11873 hI12015 hF12016 hy12017
              · skip
                refine qr_goto 86 rfl rfl ?_
                exact hJ11998 _ α11965 g11869 g11870 g11871 g11872 g11873 hI11966 hF11968 hx11961
        exact hL11885 ((12 - (u11331 + 1) + 1 : Int)).toNat _ (u11331 + 1) σ11332 α11333 (by omega) (qm_gk g11327 (by decide) (Or.inl (by decide))) (qm_gk g11328 (by decide) (Or.inl (by decide))) (qm_gk g11329 (by decide) (Or.inl (by decide))) (qm_gk g11330 (by decide) (Or.inr rfl)) (qm_ge _ _ _) (by omega) hI11334 hF11335 (rfl) (by have hw : σ11332 58 12 = (σ11332 58 12) := rfl; omega) (by have hw : σ11332 58 12 = (σ11332 58 12) := rfl; omega) hx11339 (by omega)
  exact hL11340 ((12 - 0 + 1 : Int)).toNat _ 0 σ α1 (by omega) rfl rfl rfl rfl (by decide) hI2 hF4 (by have hw : σ 58 12 = (σ 58 12) := rfl; omega) (by have hw : σ 58 12 = (σ 58 12) := rfl; omega) hy5

set_option maxHeartbeats 4000000 in
set_option maxRecDepth 20000 in
/-- OneRoof$Guests.pressingFeuds -/
theorem sf_123_64s {L : Nat} {xs : Nat → Int} {vb : Bool} {d : Nat} {σ α : Nat → Nat → Int} {κ : Nat → Option Nat} {ρ : Nat} {x1 : Int} {x2 : Int} (hI : qI σ α κ ρ) (r1 : 0 ≤ x1 ∧ x1 ≤ 9999) (r2 : 0 ≤ x2 ∧ x2 ≤ 9999) (p0 : x2 - x1 ≤ 47) (p1 : qSt σ α) (p2 : 0 ≤ σ 58 12 ∧ σ 58 12 ≤ 1999999900) : qm_T (qe L xs vb) (d + 6) 123 [.ref 64, .int (qz x1), .int (qz x2)] (qw σ α κ ρ) (fun r w' => ∃ σ' α', w' = qw σ' α' κ ρ ∧ qI σ' α' κ ρ ∧ qFr [(58, 11), (58, 12)] [53, 57, 59, 60, 61, 62, 63, 85] σ α σ' α' ∧ σ' 58 12 ≤ σ 58 12 + 48 ∧ σ' 58 12 ≥ σ 58 12 ∧ ∃ v : Int, r = some (.long (ql v)) ∧ ((-9223372036854775808) ≤ v ∧ v ≤ 9223372036854775807) ∧ qSt σ' α') := by
  refine qr_start (d := d + 5) qv_e123 (Nat.le_of_ble_eq_true rfl) ?_
  show qr_W (qe L xs vb) (d + 5) qx_e123 _ (0, [(0, .ref 64), (1, .int (qz x1)), (2, .int (qz x2))], [], _, 0, 0)
  have hF0 := qFr_rf [(58, 11), (58, 12)] [53, 57, 59, 60, 61, 62, 63, 85] σ α
  have hz58_12 : (-2147483648) ≤ σ 58 12 ∧ σ 58 12 ≤ 2147483647 := hI.1 58 12
  refine qr_iload_n 1 rfl rfl rfl ?_
  refine qr_istore_n _ 2 rfl (by decide) rfl rfl ?_
  have hL30791 : ∀ (n : Nat) (ls : qm_L) (u30780 : Int) (σ30781 α30782 : Nat → Nat → Int), 10000 - u30780 < (n : Int) → qm_get ls 0 = some (.ref 64) → qm_get ls 1 = some (.int (qz x1)) → qm_get ls 2 = some (.int (qz x2)) → qm_get ls 3 = some (.int (qz u30780)) → (0 ≤ u30780 ∧ u30780 ≤ 10000) → qI σ30781 α30782 κ ρ → qFr [(58, 11), (58, 12)] [53, 57, 59, 60, 61, 62, 63, 85] σ α σ30781 α30782 → σ30781 58 12 ≤ σ 58 12 + (u30780 - x1) → σ 58 12 ≤ σ30781 58 12 → (u30780 = x1 ∨ u30780 ≤ x2 + 1) → qSt σ30781 α30782 → x1 ≤ u30780 → qr_W (qe L xs vb) (d + 5) qx_e123 (fun r w' => ∃ σ' α', w' = qw σ' α' κ ρ ∧ qI σ' α' κ ρ ∧ qFr [(58, 11), (58, 12)] [53, 57, 59, 60, 61, 62, 63, 85] σ α σ' α' ∧ σ' 58 12 ≤ σ 58 12 + 48 ∧ σ' 58 12 ≥ σ 58 12 ∧ ∃ v : Int, r = some (.long (ql v)) ∧ ((-9223372036854775808) ≤ v ∧ v ≤ 9223372036854775807) ∧ qSt σ' α') (2, ls, [], qw σ30781 α30782 κ ρ, 0, 0) := by
    intro n
    induction n with
    | zero => intro ls u30780 σ30781 α30782 hm g30776 g30777 g30778 g30779 hf30785 hI30783 hF30784 hx30786 hx30787 hx30788 hx30789 hx30790; exact False.elim (by omega)
    | succ n ih30792 =>
      intro ls u30780 σ30781 α30782 hm g30776 g30777 g30778 g30779 hf30785 hI30783 hF30784 hx30786 hx30787 hx30788 hx30789 hx30790
      have hs30793 : (-2147483648) ≤ σ30781 58 12 ∧ σ30781 58 12 ≤ 2147483647 := hI30783.1 58 12
      refine qr_iload_n 3 rfl g30779 rfl ?_
      refine qr_iload_n 4 rfl g30778 rfl ?_
      refine qr_icmp_gt 140 7 rfl rfl rfl (qrg hf30785 (by decide) (by decide)) (qrg r2 (by decide) (by decide)) (fun h30794 => ?_) (fun h30794 => ?_)
      · skip
        refine qr_lconst 141 rfl rfl ?_
        refine qy_vl 0 rfl ?_
        refine qr_retL rfl rfl (by decide) (by decide) ?_
        exact ⟨_, _, rfl, hI30783, hF30784, (by have hw : σ30781 58 12 = (σ30781 58 12) := rfl; omega), (by have hw : σ30781 58 12 = (σ30781 58 12) := rfl; omega), 0, rfl, (by decide), hx30789⟩
      · skip
        refine qr_iload_n 8 rfl g30779 rfl ?_
        refine qr_iload_n 9 rfl g30777 rfl ?_
        refine qr_icmp_le 26 12 rfl rfl rfl (qrg hf30785 (by decide) (by decide)) (qrg r1 (by decide) (by decide)) (fun h30795 => ?_) (fun h30795 => ?_)
        · skip
          refine qr_aload_n 27 rfl g30776 rfl ?_
          refine qr_get 30 rfl rfl rfl (by decide) rfl ?_
          refine qr_iload_n 31 rfl g30779 rfl ?_
          have hs30796 : (-2147483648) ≤ σ30781 58 12 ∧ σ30781 58 12 ≤ 2147483647 := hI30783.1 58 12
          refine qr_callN 34 rfl rfl rfl (sf_89_58s (d := d + 4) hI30783 (qrg hf30785 (by decide) (by decide)) hx30789 (by omega)) ?_
          rintro _ _ ⟨σ30799, rfl, hI30800, hG30801, hw30798, rfl, hx30797⟩
          have hF30802 : qFr [(58, 11), (58, 12)] [53, 57, 59, 60, 61, 62, 63, 85] σ α σ30799 α30782 := qFr_t hF30784 hG30801 (by decide) (by decide)
          have hs30803 : (-2147483648) ≤ σ30799 58 12 ∧ σ30799 58 12 ≤ 2147483647 := hI30800.1 58 12
          show qr_W (qe L xs vb) (d + 5) qx_e123 _ (34, _, [], qw σ30799 α30782 κ ρ, 0, 0)
          refine qr_iconst 35 rfl rfl ?_
          refine qr_istore _ 37 rfl (by decide) rfl rfl ?_
          have hL33626 : ∀ (n : Nat) (ls : qm_L) (u33619 : Int) (α33621 : Nat → Nat → Int), 12 - u33619 < (n : Int) → qm_get ls 0 = some (.ref 64) → qm_get ls 1 = some (.int (qz x1)) → qm_get ls 2 = some (.int (qz x2)) → qm_get ls 3 = some (.int (qz u30780)) → qm_get ls 4 = some (.int (qz u33619)) → (0 ≤ u33619 ∧ u33619 ≤ 12) → qI σ30799 α33621 κ ρ → qFr [(58, 11), (58, 12)] [53, 57, 59, 60, 61, 62, 63, 85] σ α σ30799 α33621 → qSt σ30799 α33621 → qr_W (qe L xs vb) (d + 5) qx_e123 (fun r w' => ∃ σ' α', w' = qw σ' α' κ ρ ∧ qI σ' α' κ ρ ∧ qFr [(58, 11), (58, 12)] [53, 57, 59, 60, 61, 62, 63, 85] σ α σ' α' ∧ σ' 58 12 ≤ σ 58 12 + 48 ∧ σ' 58 12 ≥ σ 58 12 ∧ ∃ v : Int, r = some (.long (ql v)) ∧ ((-9223372036854775808) ≤ v ∧ v ≤ 9223372036854775807) ∧ qSt σ' α') (37, ls, [], qw σ30799 α33621 κ ρ, 0, 0) := by
            intro n
            induction n with
            | zero => intro ls u33619 α33621 hm g33614 g33615 g33616 g33617 g33618 hf33624 hI33622 hF33623 hx33625; exact False.elim (by omega)
            | succ n ih33627 =>
              intro ls u33619 α33621 hm g33614 g33615 g33616 g33617 g33618 hf33624 hI33622 hF33623 hx33625
              refine qr_iload 39 rfl g33618 rfl ?_
              refine qr_aload_n 40 rfl g33614 rfl ?_
              refine qr_get 43 rfl rfl rfl (by decide) rfl ?_
              have hs33628 : 0 ≤ σ30799 64 2 ∧ σ30799 64 2 ≤ 12 := hI33622.1 64 2
              refine qr_icmp_ge 134 46 rfl rfl rfl (qrg hf33624 (by decide) (by decide)) (qrg hs33628 (by decide) (by decide)) (fun h33629 => ?_) (fun h33629 => ?_)
              · skip
                refine qr_iinc _ 137 rfl g33617 (by decide) rfl rfl ?_
                refine qr_goto 2 rfl rfl ?_
                exact ih30792 _ (u30780 + 1) σ30799 α33621 (by omega) (qm_gk g33614 (by decide) (Or.inl (by decide))) (qm_gk g33615 (by decide) (Or.inl (by decide))) (qm_gk g33616 (by decide) (Or.inr rfl)) (qm_ge _ _ _) (by omega) hI33622 hF33623 (by have hw : σ30799 58 12 = (σ30799 58 12) := rfl; omega) (by have hw : σ30799 58 12 = (σ30799 58 12) := rfl; omega) (by omega) hx33625 (by omega)
              · skip
                refine qr_iconst 47 rfl rfl ?_
                refine qr_istore _ 49 rfl (by decide) rfl rfl ?_
                have hL33874 : ∀ (n : Nat) (ls : qm_L) (u33867 : Int) (α33869 : Nat → Nat → Int), 12 - u33867 < (n : Int) → qm_get ls 0 = some (.ref 64) → qm_get ls 1 = some (.int (qz x1)) → qm_get ls 2 = some (.int (qz x2)) → qm_get ls 3 = some (.int (qz u30780)) → qm_get ls 4 = some (.int (qz u33619)) → qm_get ls 5 = some (.int (qz u33867)) → (0 ≤ u33867 ∧ u33867 ≤ 12) → qI σ30799 α33869 κ ρ → qFr [(58, 11), (58, 12)] [53, 57, 59, 60, 61, 62, 63, 85] σ α σ30799 α33869 → qSt σ30799 α33869 → qr_W (qe L xs vb) (d + 5) qx_e123 (fun r w' => ∃ σ' α', w' = qw σ' α' κ ρ ∧ qI σ' α' κ ρ ∧ qFr [(58, 11), (58, 12)] [53, 57, 59, 60, 61, 62, 63, 85] σ α σ' α' ∧ σ' 58 12 ≤ σ 58 12 + 48 ∧ σ' 58 12 ≥ σ 58 12 ∧ ∃ v : Int, r = some (.long (ql v)) ∧ ((-9223372036854775808) ≤ v ∧ v ≤ 9223372036854775807) ∧ qSt σ' α') (49, ls, [], qw σ30799 α33869 κ ρ, 0, 0) := by
                  intro n
                  induction n with
                  | zero => intro ls u33867 α33869 hm g33861 g33862 g33863 g33864 g33865 g33866 hf33872 hI33870 hF33871 hx33873; exact False.elim (by omega)
                  | succ n ih33875 =>
                    intro ls u33867 α33869 hm g33861 g33862 g33863 g33864 g33865 g33866 hf33872 hI33870 hF33871 hx33873
                    refine qr_iload 51 rfl g33866 rfl ?_
                    refine qr_aload_n 52 rfl g33861 rfl ?_
                    refine qr_get 55 rfl rfl rfl (by decide) rfl ?_
                    refine qr_icmp_ge 128 58 rfl rfl rfl (qrg hf33872 (by decide) (by decide)) (qrg hs33628 (by decide) (by decide)) (fun h33876 => ?_) (fun h33876 => ?_)
                    · skip
                      refine qr_iinc _ 131 rfl g33865 (by decide) rfl rfl ?_
                      refine qr_goto 37 rfl rfl ?_
                      exact ih33627 _ (u33619 + 1) α33869 (by omega) (qm_gk g33861 (by decide) (Or.inl (by decide))) (qm_gk g33862 (by decide) (Or.inl (by decide))) (qm_gk g33863 (by decide) (Or.inl (by decide))) (qm_gk g33864 (by decide) (Or.inr rfl)) (qm_ge _ _ _) (by omega) hI33870 hF33871 hx33873
                    · skip
                      refine qr_iload 60 rfl g33865 rfl ?_
                      refine qr_iload 62 rfl g33866 rfl ?_
                      refine qr_icmp_eq 122 65 rfl rfl rfl (qrg hf33624 (by decide) (by decide)) (qrg hf33872 (by decide) (by decide)) (fun h33877 => ?_) (fun h33877 => ?_)
                      · skip
                        refine qr_iinc _ 125 rfl g33866 (by decide) rfl rfl ?_
                        refine qr_goto 49 rfl rfl ?_
                        exact ih33875 _ (u33867 + 1) α33869 (by omega) (qm_gk g33861 (by decide) (Or.inl (by decide))) (qm_gk g33862 (by decide) (Or.inl (by decide))) (qm_gk g33863 (by decide) (Or.inl (by decide))) (qm_gk g33864 (by decide) (Or.inl (by decide))) (qm_gk g33865 (by decide) (Or.inr rfl)) (qm_ge _ _ _) (by omega) hI33870 hF33871 hx33873
                      · skip
                        refine qr_aload_n 66 rfl g33861 rfl ?_
                        refine qr_get 69 rfl rfl rfl (by decide) rfl ?_
                        refine qr_aload_n 70 rfl g33861 rfl ?_
                        refine qr_get 73 rfl rfl rfl (by decide) rfl ?_
                        refine qr_iload 75 rfl g33865 rfl ?_
                        refine qr_iaload 76 rfl rfl (by omega) (by decide) rfl ?_
                        refine qr_topI (fun v33878 hv33878 => ?_)
                        have hs33879 : 0 ≤ v33878 ∧ v33878 ≤ 31 := by rw [hv33878]; exact hI33870.2.1 65 _ (show _ < 12 by omega)
                        refine qr_aload_n 77 rfl g33861 rfl ?_
                        refine qr_get 80 rfl rfl rfl (by decide) rfl ?_
                        refine qr_iload 82 rfl g33866 rfl ?_
                        refine qr_iaload 83 rfl rfl (by omega) (by decide) rfl ?_
                        refine qr_topI (fun v33880 hv33880 => ?_)
                        have hs33881 : 0 ≤ v33880 ∧ v33880 ≤ 31 := by rw [hv33880]; exact hI33870.2.1 65 _ (show _ < 12 by omega)
                        have hs33882 := qI_li hI33870 (u33619) (u33867)
                        refine qr_callN 86 rfl rfl rfl (sf_107_58s (d := d + 0) hI33870 hs33879 hs33881 (by omega) hx33873) ?_
                        rintro _ _ ⟨α33885, rfl, hI33886, hG33887, v33883, rfl, hv33883, hx33884⟩
                        have hF33888 : qFr [(58, 11), (58, 12)] [53, 57, 59, 60, 61, 62, 63, 85] σ α σ30799 α33885 := qFr_t hF33871 hG33887 (by decide) (by decide)
                        show qr_W (qe L xs vb) (d + 5) qx_e123 _ (86, _, [.int (qz v33883)], qw σ30799 α33885 κ ρ, 0, 0)
                        refine qr_if_eq 122 89 rfl rfl rfl (qrg hv33883 (by decide) (by decide)) (fun h33889 => ?_) (fun h33889 => ?_)
                        · skip
                          refine qr_iinc _ 125 rfl g33866 (by decide) rfl rfl ?_
                          refine qr_goto 49 rfl rfl ?_
                          exact ih33875 _ (u33867 + 1) α33885 (by omega) (qm_gk g33861 (by decide) (Or.inl (by decide))) (qm_gk g33862 (by decide) (Or.inl (by decide))) (qm_gk g33863 (by decide) (Or.inl (by decide))) (qm_gk g33864 (by decide) (Or.inl (by decide))) (qm_gk g33865 (by decide) (Or.inr rfl)) (qm_ge _ _ _) (by omega) hI33886 hF33888 hx33884
                        · skip
                          refine qr_aload_n 90 rfl g33861 rfl ?_
                          refine qr_get 93 rfl rfl rfl (by decide) rfl ?_
                          refine qr_get 96 rfl rfl rfl (by decide) rfl ?_
                          refine qr_aload_n 97 rfl g33861 rfl ?_
                          refine qr_get 100 rfl rfl rfl (by decide) rfl ?_
                          refine qr_iload 102 rfl g33865 rfl ?_
                          refine qr_iaload 103 rfl rfl (by omega) (by decide) rfl ?_
                          refine qr_topI (fun v33890 hv33890 => ?_)
                          have hs33891 : 0 ≤ v33890 ∧ v33890 ≤ 31 := by rw [hv33890]; exact hI33886.2.1 65 _ (show _ < 12 by omega)
                          refine qr_aload_n 104 rfl g33861 rfl ?_
                          refine qr_get 107 rfl rfl rfl (by decide) rfl ?_
                          refine qr_iload 109 rfl g33866 rfl ?_
                          refine qr_iaload 110 rfl rfl (by omega) (by decide) rfl ?_
                          refine qr_topI (fun v33892 hv33892 => ?_)
                          have hs33893 : 0 ≤ v33892 ∧ v33892 ≤ 31 := by rw [hv33892]; exact hI33886.2.1 65 _ (show _ < 12 by omega)
                          have hs33894 := qI_li hI33886 (u33619) (u33867)
                          refine qr_iload_n 111 rfl g33864 rfl ?_
                          refine qr_aload_n 112 rfl g33861 rfl ?_
                          refine qr_get 115 rfl rfl rfl (by decide) rfl ?_
                          refine qr_get 118 rfl rfl rfl (by decide) rfl ?_
                          refine qr_callN 121 rfl rfl rfl (sf_124_27_23 (d := d + 2) hI33886 hs33891 hs33893 (qrg hf30785 (by decide) (by decide))) ?_
                          rintro _ _ ⟨rfl, v33895, rfl, hv33895⟩
                          show qr_W (qe L xs vb) (d + 5) qx_e123 _ (121, _, [.long (ql v33895)], qw σ30799 α33885 κ ρ, 0, 0)
                          refine qr_retL rfl rfl (by decide) (by decide) ?_
                          exact ⟨_, _, rfl, hI33886, hF33888, (by have hw : σ30799 58 12 = (σ30799 58 12) := rfl; omega), (by have hw : σ30799 58 12 = (σ30799 58 12) := rfl; omega), v33895, rfl, hv33895, hx33884⟩
                exact hL33874 ((12 - 0 + 1 : Int)).toNat _ 0 α33621 (by omega) (qm_gk g33614 (by decide) (Or.inl (by decide))) (qm_gk g33615 (by decide) (Or.inl (by decide))) (qm_gk g33616 (by decide) (Or.inl (by decide))) (qm_gk g33617 (by decide) (Or.inl (by decide))) (qm_gk g33618 (by decide) (Or.inr rfl)) (qm_ge _ _ _) (by decide) hI33622 hF33623 hx33625
          exact hL33626 ((12 - 0 + 1 : Int)).toNat _ 0 α30782 (by omega) (qm_gk g30776 (by decide) (Or.inl (by decide))) (qm_gk g30777 (by decide) (Or.inl (by decide))) (qm_gk g30778 (by decide) (Or.inl (by decide))) (qm_gk g30779 (by decide) (Or.inr rfl)) (qm_ge _ _ _) (by decide) hI30800 hF30802 hx30797
        · skip
          refine qr_aload_n 13 rfl g30776 rfl ?_
          refine qr_get 16 rfl rfl rfl (by decide) rfl ?_
          refine qr_iload_n 17 rfl g30779 rfl ?_
          refine qr_callN 20 rfl rfl rfl (sf_101_58 (d := d + 3) hI30783 (qrg hf30785 (by decide) (by decide))) ?_
          rintro _ _ ⟨rfl, v33896, rfl, hv33896⟩
          show qr_W (qe L xs vb) (d + 5) qx_e123 _ (20, _, [.int (qz v33896)], qw σ30781 α30782 κ ρ, 0, 0)
          refine qr_if_ne 26 23 rfl rfl rfl (qrg hv33896 (by decide) (by decide)) (fun h33897 => ?_) (fun h33897 => ?_)
          · skip
            refine qr_aload_n 27 rfl g30776 rfl ?_
            refine qr_get 30 rfl rfl rfl (by decide) rfl ?_
            refine qr_iload_n 31 rfl g30779 rfl ?_
            have hs33898 : (-2147483648) ≤ σ30781 58 12 ∧ σ30781 58 12 ≤ 2147483647 := hI30783.1 58 12
            refine qr_callN 34 rfl rfl rfl (sf_89_58s (d := d + 4) hI30783 (qrg hf30785 (by decide) (by decide)) hx30789 (by omega)) ?_
            rintro _ _ ⟨σ33901, rfl, hI33902, hG33903, hw33900, rfl, hx33899⟩
            have hF33904 : qFr [(58, 11), (58, 12)] [53, 57, 59, 60, 61, 62, 63, 85] σ α σ33901 α30782 := qFr_t hF30784 hG33903 (by decide) (by decide)
            have hs33905 : (-2147483648) ≤ σ33901 58 12 ∧ σ33901 58 12 ≤ 2147483647 := hI33902.1 58 12
            show qr_W (qe L xs vb) (d + 5) qx_e123 _ (34, _, [], qw σ33901 α30782 κ ρ, 0, 0)
            refine qr_iconst 35 rfl rfl ?_
            refine qr_istore _ 37 rfl (by decide) rfl rfl ?_
            have hL36728 : ∀ (n : Nat) (ls : qm_L) (u36721 : Int) (α36723 : Nat → Nat → Int), 12 - u36721 < (n : Int) → qm_get ls 0 = some (.ref 64) → qm_get ls 1 = some (.int (qz x1)) → qm_get ls 2 = some (.int (qz x2)) → qm_get ls 3 = some (.int (qz u30780)) → qm_get ls 4 = some (.int (qz u36721)) → (0 ≤ u36721 ∧ u36721 ≤ 12) → qI σ33901 α36723 κ ρ → qFr [(58, 11), (58, 12)] [53, 57, 59, 60, 61, 62, 63, 85] σ α σ33901 α36723 → qSt σ33901 α36723 → qr_W (qe L xs vb) (d + 5) qx_e123 (fun r w' => ∃ σ' α', w' = qw σ' α' κ ρ ∧ qI σ' α' κ ρ ∧ qFr [(58, 11), (58, 12)] [53, 57, 59, 60, 61, 62, 63, 85] σ α σ' α' ∧ σ' 58 12 ≤ σ 58 12 + 48 ∧ σ' 58 12 ≥ σ 58 12 ∧ ∃ v : Int, r = some (.long (ql v)) ∧ ((-9223372036854775808) ≤ v ∧ v ≤ 9223372036854775807) ∧ qSt σ' α') (37, ls, [], qw σ33901 α36723 κ ρ, 0, 0) := by
              intro n
              induction n with
              | zero => intro ls u36721 α36723 hm g36716 g36717 g36718 g36719 g36720 hf36726 hI36724 hF36725 hx36727; exact False.elim (by omega)
              | succ n ih36729 =>
                intro ls u36721 α36723 hm g36716 g36717 g36718 g36719 g36720 hf36726 hI36724 hF36725 hx36727
                refine qr_iload 39 rfl g36720 rfl ?_
                refine qr_aload_n 40 rfl g36716 rfl ?_
                refine qr_get 43 rfl rfl rfl (by decide) rfl ?_
                have hs36730 : 0 ≤ σ33901 64 2 ∧ σ33901 64 2 ≤ 12 := hI36724.1 64 2
                refine qr_icmp_ge 134 46 rfl rfl rfl (qrg hf36726 (by decide) (by decide)) (qrg hs36730 (by decide) (by decide)) (fun h36731 => ?_) (fun h36731 => ?_)
                · skip
                  refine qr_iinc _ 137 rfl g36719 (by decide) rfl rfl ?_
                  refine qr_goto 2 rfl rfl ?_
                  exact ih30792 _ (u30780 + 1) σ33901 α36723 (by omega) (qm_gk g36716 (by decide) (Or.inl (by decide))) (qm_gk g36717 (by decide) (Or.inl (by decide))) (qm_gk g36718 (by decide) (Or.inr rfl)) (qm_ge _ _ _) (by omega) hI36724 hF36725 (by have hw : σ33901 58 12 = (σ33901 58 12) := rfl; omega) (by have hw : σ33901 58 12 = (σ33901 58 12) := rfl; omega) (by omega) hx36727 (by omega)
                · skip
                  refine qr_iconst 47 rfl rfl ?_
                  refine qr_istore _ 49 rfl (by decide) rfl rfl ?_
                  have hL36976 : ∀ (n : Nat) (ls : qm_L) (u36969 : Int) (α36971 : Nat → Nat → Int), 12 - u36969 < (n : Int) → qm_get ls 0 = some (.ref 64) → qm_get ls 1 = some (.int (qz x1)) → qm_get ls 2 = some (.int (qz x2)) → qm_get ls 3 = some (.int (qz u30780)) → qm_get ls 4 = some (.int (qz u36721)) → qm_get ls 5 = some (.int (qz u36969)) → (0 ≤ u36969 ∧ u36969 ≤ 12) → qI σ33901 α36971 κ ρ → qFr [(58, 11), (58, 12)] [53, 57, 59, 60, 61, 62, 63, 85] σ α σ33901 α36971 → qSt σ33901 α36971 → qr_W (qe L xs vb) (d + 5) qx_e123 (fun r w' => ∃ σ' α', w' = qw σ' α' κ ρ ∧ qI σ' α' κ ρ ∧ qFr [(58, 11), (58, 12)] [53, 57, 59, 60, 61, 62, 63, 85] σ α σ' α' ∧ σ' 58 12 ≤ σ 58 12 + 48 ∧ σ' 58 12 ≥ σ 58 12 ∧ ∃ v : Int, r = some (.long (ql v)) ∧ ((-9223372036854775808) ≤ v ∧ v ≤ 9223372036854775807) ∧ qSt σ' α') (49, ls, [], qw σ33901 α36971 κ ρ, 0, 0) := by
                    intro n
                    induction n with
                    | zero => intro ls u36969 α36971 hm g36963 g36964 g36965 g36966 g36967 g36968 hf36974 hI36972 hF36973 hx36975; exact False.elim (by omega)
                    | succ n ih36977 =>
                      intro ls u36969 α36971 hm g36963 g36964 g36965 g36966 g36967 g36968 hf36974 hI36972 hF36973 hx36975
                      refine qr_iload 51 rfl g36968 rfl ?_
                      refine qr_aload_n 52 rfl g36963 rfl ?_
                      refine qr_get 55 rfl rfl rfl (by decide) rfl ?_
                      refine qr_icmp_ge 128 58 rfl rfl rfl (qrg hf36974 (by decide) (by decide)) (qrg hs36730 (by decide) (by decide)) (fun h36978 => ?_) (fun h36978 => ?_)
                      · skip
                        refine qr_iinc _ 131 rfl g36967 (by decide) rfl rfl ?_
                        refine qr_goto 37 rfl rfl ?_
                        exact ih36729 _ (u36721 + 1) α36971 (by omega) (qm_gk g36963 (by decide) (Or.inl (by decide))) (qm_gk g36964 (by decide) (Or.inl (by decide))) (qm_gk g36965 (by decide) (Or.inl (by decide))) (qm_gk g36966 (by decide) (Or.inr rfl)) (qm_ge _ _ _) (by omega) hI36972 hF36973 hx36975
                      · skip
                        refine qr_iload 60 rfl g36967 rfl ?_
                        refine qr_iload 62 rfl g36968 rfl ?_
                        refine qr_icmp_eq 122 65 rfl rfl rfl (qrg hf36726 (by decide) (by decide)) (qrg hf36974 (by decide) (by decide)) (fun h36979 => ?_) (fun h36979 => ?_)
                        · skip
                          refine qr_iinc _ 125 rfl g36968 (by decide) rfl rfl ?_
                          refine qr_goto 49 rfl rfl ?_
                          exact ih36977 _ (u36969 + 1) α36971 (by omega) (qm_gk g36963 (by decide) (Or.inl (by decide))) (qm_gk g36964 (by decide) (Or.inl (by decide))) (qm_gk g36965 (by decide) (Or.inl (by decide))) (qm_gk g36966 (by decide) (Or.inl (by decide))) (qm_gk g36967 (by decide) (Or.inr rfl)) (qm_ge _ _ _) (by omega) hI36972 hF36973 hx36975
                        · skip
                          refine qr_aload_n 66 rfl g36963 rfl ?_
                          refine qr_get 69 rfl rfl rfl (by decide) rfl ?_
                          refine qr_aload_n 70 rfl g36963 rfl ?_
                          refine qr_get 73 rfl rfl rfl (by decide) rfl ?_
                          refine qr_iload 75 rfl g36967 rfl ?_
                          refine qr_iaload 76 rfl rfl (by omega) (by decide) rfl ?_
                          refine qr_topI (fun v36980 hv36980 => ?_)
                          have hs36981 : 0 ≤ v36980 ∧ v36980 ≤ 31 := by rw [hv36980]; exact hI36972.2.1 65 _ (show _ < 12 by omega)
                          refine qr_aload_n 77 rfl g36963 rfl ?_
                          refine qr_get 80 rfl rfl rfl (by decide) rfl ?_
                          refine qr_iload 82 rfl g36968 rfl ?_
                          refine qr_iaload 83 rfl rfl (by omega) (by decide) rfl ?_
                          refine qr_topI (fun v36982 hv36982 => ?_)
                          have hs36983 : 0 ≤ v36982 ∧ v36982 ≤ 31 := by rw [hv36982]; exact hI36972.2.1 65 _ (show _ < 12 by omega)
                          have hs36984 := qI_li hI36972 (u36721) (u36969)
                          refine qr_callN 86 rfl rfl rfl (sf_107_58s (d := d + 0) hI36972 hs36981 hs36983 (by omega) hx36975) ?_
                          rintro _ _ ⟨α36987, rfl, hI36988, hG36989, v36985, rfl, hv36985, hx36986⟩
                          have hF36990 : qFr [(58, 11), (58, 12)] [53, 57, 59, 60, 61, 62, 63, 85] σ α σ33901 α36987 := qFr_t hF36973 hG36989 (by decide) (by decide)
                          show qr_W (qe L xs vb) (d + 5) qx_e123 _ (86, _, [.int (qz v36985)], qw σ33901 α36987 κ ρ, 0, 0)
                          refine qr_if_eq 122 89 rfl rfl rfl (qrg hv36985 (by decide) (by decide)) (fun h36991 => ?_) (fun h36991 => ?_)
                          · skip
                            refine qr_iinc _ 125 rfl g36968 (by decide) rfl rfl ?_
                            refine qr_goto 49 rfl rfl ?_
                            exact ih36977 _ (u36969 + 1) α36987 (by omega) (qm_gk g36963 (by decide) (Or.inl (by decide))) (qm_gk g36964 (by decide) (Or.inl (by decide))) (qm_gk g36965 (by decide) (Or.inl (by decide))) (qm_gk g36966 (by decide) (Or.inl (by decide))) (qm_gk g36967 (by decide) (Or.inr rfl)) (qm_ge _ _ _) (by omega) hI36988 hF36990 hx36986
                          · skip
                            refine qr_aload_n 90 rfl g36963 rfl ?_
                            refine qr_get 93 rfl rfl rfl (by decide) rfl ?_
                            refine qr_get 96 rfl rfl rfl (by decide) rfl ?_
                            refine qr_aload_n 97 rfl g36963 rfl ?_
                            refine qr_get 100 rfl rfl rfl (by decide) rfl ?_
                            refine qr_iload 102 rfl g36967 rfl ?_
                            refine qr_iaload 103 rfl rfl (by omega) (by decide) rfl ?_
                            refine qr_topI (fun v36992 hv36992 => ?_)
                            have hs36993 : 0 ≤ v36992 ∧ v36992 ≤ 31 := by rw [hv36992]; exact hI36988.2.1 65 _ (show _ < 12 by omega)
                            refine qr_aload_n 104 rfl g36963 rfl ?_
                            refine qr_get 107 rfl rfl rfl (by decide) rfl ?_
                            refine qr_iload 109 rfl g36968 rfl ?_
                            refine qr_iaload 110 rfl rfl (by omega) (by decide) rfl ?_
                            refine qr_topI (fun v36994 hv36994 => ?_)
                            have hs36995 : 0 ≤ v36994 ∧ v36994 ≤ 31 := by rw [hv36994]; exact hI36988.2.1 65 _ (show _ < 12 by omega)
                            have hs36996 := qI_li hI36988 (u36721) (u36969)
                            refine qr_iload_n 111 rfl g36966 rfl ?_
                            refine qr_aload_n 112 rfl g36963 rfl ?_
                            refine qr_get 115 rfl rfl rfl (by decide) rfl ?_
                            refine qr_get 118 rfl rfl rfl (by decide) rfl ?_
                            refine qr_callN 121 rfl rfl rfl (sf_124_27_23 (d := d + 2) hI36988 hs36993 hs36995 (qrg hf30785 (by decide) (by decide))) ?_
                            rintro _ _ ⟨rfl, v36997, rfl, hv36997⟩
                            show qr_W (qe L xs vb) (d + 5) qx_e123 _ (121, _, [.long (ql v36997)], qw σ33901 α36987 κ ρ, 0, 0)
                            refine qr_retL rfl rfl (by decide) (by decide) ?_
                            exact ⟨_, _, rfl, hI36988, hF36990, (by have hw : σ33901 58 12 = (σ33901 58 12) := rfl; omega), (by have hw : σ33901 58 12 = (σ33901 58 12) := rfl; omega), v36997, rfl, hv36997, hx36986⟩
                  exact hL36976 ((12 - 0 + 1 : Int)).toNat _ 0 α36723 (by omega) (qm_gk g36716 (by decide) (Or.inl (by decide))) (qm_gk g36717 (by decide) (Or.inl (by decide))) (qm_gk g36718 (by decide) (Or.inl (by decide))) (qm_gk g36719 (by decide) (Or.inl (by decide))) (qm_gk g36720 (by decide) (Or.inr rfl)) (qm_ge _ _ _) (by decide) hI36724 hF36725 hx36727
            exact hL36728 ((12 - 0 + 1 : Int)).toNat _ 0 α30782 (by omega) (qm_gk g30776 (by decide) (Or.inl (by decide))) (qm_gk g30777 (by decide) (Or.inl (by decide))) (qm_gk g30778 (by decide) (Or.inl (by decide))) (qm_gk g30779 (by decide) (Or.inr rfl)) (qm_ge _ _ _) (by decide) hI33902 hF33904 hx33899
          · skip
            refine qr_goto 134 rfl rfl ?_
            refine qr_iinc _ 137 rfl g30779 (by decide) rfl rfl ?_
            refine qr_goto 2 rfl rfl ?_
            exact ih30792 _ (u30780 + 1) σ30781 α30782 (by omega) (qm_gk g30776 (by decide) (Or.inl (by decide))) (qm_gk g30777 (by decide) (Or.inl (by decide))) (qm_gk g30778 (by decide) (Or.inr rfl)) (qm_ge _ _ _) (by omega) hI30783 hF30784 (by have hw : σ30781 58 12 = (σ30781 58 12) := rfl; omega) (by have hw : σ30781 58 12 = (σ30781 58 12) := rfl; omega) (by omega) hx30789 (by omega)
  exact hL30791 ((10000 - x1 + 1 : Int)).toNat _ x1 σ α (by omega) rfl rfl rfl rfl (qrg r1 (by decide) (by decide)) hI hF0 (by have hw : σ 58 12 = (σ 58 12) := rfl; omega) (by have hw : σ 58 12 = (σ 58 12) := rfl; omega) (by omega) p1 (by omega)

set_option maxHeartbeats 4000000 in
set_option maxRecDepth 20000 in
/-- OneRoof$Guests.payOff -/
theorem sf_121_64s {L : Nat} {xs : Nat → Int} {vb : Bool} {d : Nat} {σ α : Nat → Nat → Int} {κ : Nat → Option Nat} {ρ : Nat} {x1 : Int} {x2 : Int} {x3 : Int} (hI : qI σ α κ ρ) (r1 : 0 ≤ x1 ∧ x1 ≤ 9999) (r2 : 0 ≤ x2 ∧ x2 ≤ 9999) (r3 : (-2147483648) ≤ x3 ∧ x3 ≤ 2147483647) (p0 : x2 - x1 ≤ 47) (p1 : σ 27 6 = 0) (p2 : qSt σ α) (p3 : 0 ≤ σ 58 12 ∧ σ 58 12 ≤ 1999990000) : qm_T (qe L xs vb) (d + 7) 121 [.ref 64, .int (qz x1), .int (qz x2), .int (qz x3)] (qw σ α κ ρ) (fun r w' => ∃ σ' α', w' = qw σ' α' κ ρ ∧ qI σ' α' κ ρ ∧ qFr [(27, 6), (58, 11), (58, 12)] [53, 57, 59, 60, 61, 62, 63, 85] σ α σ' α' ∧ σ' 58 12 ≤ σ 58 12 + 528 ∧ σ' 58 12 ≥ σ 58 12 ∧ σ' 27 6 = 0 ∧ ∃ v : Int, r = some (.long (ql v)) ∧ ((-9223372036854775808) ≤ v ∧ v ≤ 9223372036854775807) ∧ qSt σ' α') := by
  refine qr_start (d := d + 6) qv_e121 (Nat.le_of_ble_eq_true rfl) ?_
  show qr_W (qe L xs vb) (d + 6) qx_e121 _ (0, [(0, .ref 64), (1, .int (qz x1)), (2, .int (qz x2)), (3, .int (qz x3))], [], _, 0, 0)
  have hF0 := qFr_rf [(27, 6), (58, 11), (58, 12)] [53, 57, 59, 60, 61, 62, 63, 85] σ α
  have hz27_6 : (-9223372036854775808) ≤ σ 27 6 ∧ σ 27 6 ≤ 9223372036854775807 := hI.1 27 6
  have hz58_12 : (-2147483648) ≤ σ 58 12 ∧ σ 58 12 ≤ 2147483647 := hI.1 58 12
  refine qr_aload_n 1 rfl rfl rfl ?_
  refine qr_get 4 rfl rfl rfl (by decide) rfl ?_
  refine qr_get 7 rfl rfl rfl (by decide) rfl ?_
  refine qr_astore _ 9 rfl (by decide) rfl rfl ?_
  refine qr_aload 11 rfl rfl rfl ?_
  refine qr_iload_n 12 rfl rfl rfl ?_
  refine qr_bipush 14 rfl (by decide) rfl ?_
  refine qr_callN 17 rfl rfl rfl (sf_122_27 (d := d + 4) hI (qrg r1 (by decide) (by decide)) (by decide)) ?_
  rintro _ _ ⟨rfl, v1, rfl, hv1⟩
  show qr_W (qe L xs vb) (d + 6) qx_e121 _ (17, _, [.long (ql v1)], qw σ α κ ρ, 0, 0)
  refine qr_lstore _ 19 rfl (by decide) rfl rfl ?_
  refine qr_lconst 20 rfl rfl ?_
  refine qy_vl 0 rfl ?_
  refine qr_lstore _ 22 rfl (by decide) rfl rfl ?_
  refine qr_iconst 23 rfl rfl ?_
  refine qr_istore _ 25 rfl (by decide) rfl rfl ?_
  have hL322 : ∀ (n : Nat) (ls : qm_L) (u309 u311 : Int) (σ312 α313 : Nat → Nat → Int), 11 - u311 < (n : Int) → qm_get ls 0 = some (.ref 64) → qm_get ls 1 = some (.int (qz x1)) → qm_get ls 2 = some (.int (qz x2)) → qm_get ls 3 = some (.int (qz x3)) → qm_get ls 4 = some (.ref 27) → qm_get ls 5 = some (.long (ql v1)) → qm_get ls 7 = some (.long (ql u309)) → qm_get ls 9 = some (.int (qz u311)) → ((-9223372036854775808) ≤ u309 ∧ u309 ≤ 9223372036854775807) → (0 ≤ u311 ∧ u311 ≤ 11) → qI σ312 α313 κ ρ → qFr [(27, 6), (58, 11), (58, 12)] [53, 57, 59, 60, 61, 62, 63, 85] σ α σ312 α313 → σ312 58 12 ≤ σ 58 12 + 48 * u311 → σ 58 12 ≤ σ312 58 12 → σ312 27 6 = 0 → qSt σ312 α313 → qr_W (qe L xs vb) (d + 6) qx_e121 (fun r w' => ∃ σ' α', w' = qw σ' α' κ ρ ∧ qI σ' α' κ ρ ∧ qFr [(27, 6), (58, 11), (58, 12)] [53, 57, 59, 60, 61, 62, 63, 85] σ α σ' α' ∧ σ' 58 12 ≤ σ 58 12 + 528 ∧ σ' 58 12 ≥ σ 58 12 ∧ σ' 27 6 = 0 ∧ ∃ v : Int, r = some (.long (ql v)) ∧ ((-9223372036854775808) ≤ v ∧ v ≤ 9223372036854775807) ∧ qSt σ' α') (25, ls, [], qw σ312 α313 κ ρ, 0, 0) := by
    intro n
    induction n with
    | zero => intro ls u309 u311 σ312 α313 hm g302 g303 g304 g305 g306 g307 g308 g310 hf316 hf317 hI314 hF315 hx318 hx319 hx320 hx321; exact False.elim (by omega)
    | succ n ih323 =>
      intro ls u309 u311 σ312 α313 hm g302 g303 g304 g305 g306 g307 g308 g310 hf316 hf317 hI314 hF315 hx318 hx319 hx320 hx321
      have hs324 : (-2147483648) ≤ σ312 58 12 ∧ σ312 58 12 ≤ 2147483647 := hI314.1 58 12
      have hs325 : (-9223372036854775808) ≤ σ312 27 6 ∧ σ312 27 6 ≤ 9223372036854775807 := hI314.1 27 6
      refine qr_iload 27 rfl g310 rfl ?_
      refine qr_bipush 29 rfl (by decide) rfl ?_
      refine qr_icmp_gt 109 32 rfl rfl rfl (qrg hf317 (by decide) (by decide)) (by decide) (fun h326 => ?_) (fun h326 => ?_)
      · skip
        refine qr_ldc2 (-2) 112 rfl (by decide) rfl ?_
        refine qr_retL rfl rfl (by decide) (by decide) ?_
        exact ⟨_, _, rfl, hI314, hF315, (by have hw : σ312 58 12 = (σ312 58 12) := rfl; omega), (by have hw : σ312 58 12 = (σ312 58 12) := rfl; omega), (by have hw : σ312 27 6 = (σ312 27 6) := rfl; omega), (-2), rfl, (by decide), hx321⟩
      · skip
        refine qr_aload 34 rfl g306 rfl ?_
        refine qr_lload 36 rfl g308 rfl ?_
        refine qr_put 39 rfl (by decide) rfl (Nat.le_of_ble_eq_true rfl) (Nat.le_of_ble_eq_true rfl) (Or.inl rfl) (qr_fitL rfl _) rfl ?_
        refine qy_wS (qw_s σ312 27 6 u309) rfl (fun σ327 e328 => ?_)
        have hI329 : qI σ327 α313 κ ρ := by rw [e328]; exact qI_s hI314 27 6 rfl (show (-9223372036854775808) ≤ u309 ∧ u309 ≤ 9223372036854775807 by omega)
        have hF330 : qFr [(27, 6), (58, 11), (58, 12)] [53, 57, 59, 60, 61, 62, 63, 85] σ α σ327 α313 := by rw [e328]; exact qFr_s hF315 27 6 _ (by decide)
        have hy331 : qSt σ327 α313 := qSt_c (congrFun (congrFun e328 58) 12) rfl rfl hx321
        refine qr_aload_n 40 rfl g302 rfl ?_
        refine qr_iload_n 41 rfl g303 rfl ?_
        refine qr_iload_n 42 rfl g304 rfl ?_
        have hs332 : (-2147483648) ≤ σ327 58 12 ∧ σ327 58 12 ≤ 2147483647 := hI329.1 58 12
        have hs333 : σ327 58 12 = (σ312 58 12) := (congrFun (congrFun e328 58) 12).trans rfl
        refine qr_callN 45 rfl rfl rfl (sf_123_64s (d := d + 0) hI329 r1 r2 (by omega) hy331 (by omega)) ?_
        rintro _ _ ⟨σ338, α339, rfl, hI340, hG341, hw336, hw337, v334, rfl, hv334, hx335⟩
        have hF342 : qFr [(27, 6), (58, 11), (58, 12)] [53, 57, 59, 60, 61, 62, 63, 85] σ α σ338 α339 := qFr_t hF330 hG341 (by decide) (by decide)
        have hs343 : (-2147483648) ≤ σ338 58 12 ∧ σ338 58 12 ≤ 2147483647 := hI340.1 58 12
        show qr_W (qe L xs vb) (d + 6) qx_e121 _ (45, _, [.long (ql v334)], qw σ338 α339 κ ρ, 0, 0)
        refine qr_lstore _ 47 rfl (by decide) rfl rfl ?_
        refine qr_aload 49 rfl (qm_gk2 g306 (by decide) (by decide) (Or.inl (by decide))) rfl ?_
        refine qr_lconst 50 rfl rfl ?_
        refine qy_vl 0 rfl ?_
        refine qr_put 53 rfl (by decide) rfl (Nat.le_of_ble_eq_true rfl) (Nat.le_of_ble_eq_true rfl) (Or.inl rfl) (qr_fitL rfl _) rfl ?_
        refine qy_wS (qw_s σ338 27 6 0) rfl (fun σ344 e345 => ?_)
        have hI346 : qI σ344 α339 κ ρ := by rw [e345]; exact qI_s hI340 27 6 rfl (show (-9223372036854775808) ≤ 0 ∧ 0 ≤ 9223372036854775807 by omega)
        have hF347 : qFr [(27, 6), (58, 11), (58, 12)] [53, 57, 59, 60, 61, 62, 63, 85] σ α σ344 α339 := by rw [e345]; exact qFr_s hF342 27 6 _ (by decide)
        have hy348 : qSt σ344 α339 := qSt_c (congrFun (congrFun e345 58) 12) rfl rfl hx335
        refine qr_lload 55 rfl (qm_ge2 _ _ _) rfl ?_
        refine qr_lconst 56 rfl rfl ?_
        refine qy_vl 0 rfl ?_
        refine qr_lc_ne 78 60 rfl rfl rfl rfl hv334 (by decide) (fun h349 => ?_) (fun h349 => ?_)
        · skip
          refine qr_lload 80 rfl (qm_ge2 _ _ _) rfl ?_
          refine qr_lload 82 rfl (qm_gk2 g307 (by decide) (by decide) (Or.inl (by decide))) rfl ?_
          refine qr_ldc2 (-1) 85 rfl (by decide) rfl ?_
          refine qr_lxor 86 rfl rfl ?_
          refine qy_canl (fun v350 hv350 => ?_)
          refine qr_land 87 rfl rfl ?_
          refine qy_canl (fun v351 hv351 => ?_)
          refine qr_lconst 88 rfl rfl ?_
          refine qy_vl 0 rfl ?_
          refine qr_lc_eq 96 92 rfl rfl rfl rfl hv351 (by decide) (fun h352 => ?_) (fun h352 => ?_)
          · skip
            refine qr_lload 98 rfl (qm_gk2 g308 (by decide) (by decide) (Or.inl (by decide))) rfl ?_
            refine qr_lload 100 rfl (qm_ge2 _ _ _) rfl ?_
            refine qr_lor 101 rfl rfl ?_
            refine qy_canl (fun v353 hv353 => ?_)
            refine qr_lstore _ 103 rfl (by decide) rfl rfl ?_
            refine qr_iinc _ 106 rfl (qm_gk2 (qm_gk2 g310 (by decide) (by decide) (Or.inr rfl)) (by decide) (by decide) (Or.inl (by decide))) (by decide) rfl rfl ?_
            refine qr_goto 25 rfl rfl ?_
            exact ih323 _ v353 (u311 + 1) σ344 α339 (by omega) (qm_gk (qm_gk2 (qm_gk2 g302 (by decide) (by decide) (Or.inl (by decide))) (by decide) (by decide) (Or.inl (by decide))) (by decide) (Or.inl (by decide))) (qm_gk (qm_gk2 (qm_gk2 g303 (by decide) (by decide) (Or.inl (by decide))) (by decide) (by decide) (Or.inl (by decide))) (by decide) (Or.inl (by decide))) (qm_gk (qm_gk2 (qm_gk2 g304 (by decide) (by decide) (Or.inl (by decide))) (by decide) (by decide) (Or.inl (by decide))) (by decide) (Or.inl (by decide))) (qm_gk (qm_gk2 (qm_gk2 g305 (by decide) (by decide) (Or.inl (by decide))) (by decide) (by decide) (Or.inl (by decide))) (by decide) (Or.inl (by decide))) (qm_gk (qm_gk2 (qm_gk2 g306 (by decide) (by decide) (Or.inl (by decide))) (by decide) (by decide) (Or.inl (by decide))) (by decide) (Or.inl (by decide))) (qm_gk (qm_gk2 (qm_gk2 g307 (by decide) (by decide) (Or.inl (by decide))) (by decide) (by decide) (Or.inl (by decide))) (by decide) (Or.inl (by decide))) (qm_gk (qm_ge2 _ _ _) (by decide) (Or.inl (by decide))) (qm_ge _ _ _) hv353 (by omega) hI346 hF347 (by have hw : σ344 58 12 = (σ338 58 12) := (congrFun (congrFun e345 58) 12).trans rfl; omega) (by have hw : σ344 58 12 = (σ338 58 12) := (congrFun (congrFun e345 58) 12).trans rfl; omega) (by have hw : σ344 27 6 = 0 := (congrFun (congrFun e345 27) 6).trans rfl; omega) hy348
          · skip
            refine qr_ldc2 (-2) 95 rfl (by decide) rfl ?_
            refine qr_retL rfl rfl (by decide) (by decide) ?_
            exact ⟨_, _, rfl, hI346, hF347, (by have hw : σ344 58 12 = (σ338 58 12) := (congrFun (congrFun e345 58) 12).trans rfl; omega), (by have hw : σ344 58 12 = (σ338 58 12) := (congrFun (congrFun e345 58) 12).trans rfl; omega), (by have hw : σ344 27 6 = 0 := (congrFun (congrFun e345 27) 6).trans rfl; omega), (-2), rfl, (by decide), hy348⟩
        · skip
          refine qr_iload_n 61 rfl (qm_gk2 g305 (by decide) (by decide) (Or.inl (by decide))) rfl ?_
          refine qr_if_ne 75 64 rfl rfl rfl r3 (fun h354 => ?_) (fun h354 => ?_)
          · skip
            refine qr_lload 77 rfl (qm_gk2 g308 (by decide) (by decide) (Or.inl (by decide))) rfl ?_
            refine qr_retL rfl rfl (by decide) (by decide) ?_
            exact ⟨_, _, rfl, hI346, hF347, (by have hw : σ344 58 12 = (σ338 58 12) := (congrFun (congrFun e345 58) 12).trans rfl; omega), (by have hw : σ344 58 12 = (σ338 58 12) := (congrFun (congrFun e345 58) 12).trans rfl; omega), (by have hw : σ344 27 6 = 0 := (congrFun (congrFun e345 27) 6).trans rfl; omega), u309, rfl, hf316, hy348⟩
          · skip
            refine qr_aload 66 rfl (qm_gk2 g306 (by decide) (by decide) (Or.inl (by decide))) rfl ?_
            refine qr_lload 68 rfl (qm_gk2 g308 (by decide) (by decide) (Or.inl (by decide))) rfl ?_
            refine qr_callN 71 rfl rfl rfl (sf_125_27 (d := d + 4) hI346 hf316) ?_
            rintro _ _ ⟨rfl, v355, rfl, hv355⟩
            show qr_W (qe L xs vb) (d + 6) qx_e121 _ (71, _, [.int (qz v355)], qw σ344 α339 κ ρ, 0, 0)
            refine qr_i2l 72 rfl hv355 rfl ?_
            refine qr_goto 77 rfl rfl ?_
            refine qr_retL rfl rfl (by decide) (by decide) ?_
            exact ⟨_, _, rfl, hI346, hF347, (by have hw : σ344 58 12 = (σ338 58 12) := (congrFun (congrFun e345 58) 12).trans rfl; omega), (by have hw : σ344 58 12 = (σ338 58 12) := (congrFun (congrFun e345 58) 12).trans rfl; omega), (by have hw : σ344 27 6 = 0 := (congrFun (congrFun e345 27) 6).trans rfl; omega), v355, rfl, (qrg hv355 (by decide) (by decide)), hy348⟩
  exact hL322 ((11 - 0 + 1 : Int)).toNat _ 0 0 σ α (by omega) rfl rfl rfl rfl rfl rfl rfl rfl (by decide) (by decide) hI hF0 (by have hw : σ 58 12 = (σ 58 12) := rfl; omega) (by have hw : σ 58 12 = (σ 58 12) := rfl; omega) (by have hw : σ 27 6 = (σ 27 6) := rfl; omega) p2

set_option maxHeartbeats 4000000 in
set_option maxRecDepth 20000 in
/-- OneRoof.together -/
theorem sf_99_16s {L : Nat} {xs : Nat → Int} {vb : Bool} {d : Nat} {σ α : Nat → Nat → Int} {κ : Nat → Option Nat} {ρ : Nat} {x1 : Int} {x2 : Int} {x3 : Int} (hI : qI σ α κ ρ) (r1 : (-9223372036854775808) ≤ x1 ∧ x1 ≤ 9223372036854775807) (r2 : (-2147483648) ≤ x2 ∧ x2 ≤ 2147483647) (r3 : (-2147483648) ≤ x3 ∧ x3 ≤ 2147483647) (p0 : qSt σ α) (p1 : 0 ≤ σ 58 12 ∧ σ 58 12 ≤ 1900000000) : qm_T (qe L xs vb) (d + 6) 99 [.ref 16, .long (ql x1), .int (qz x2), .int (qz x3)] (qw σ α κ ρ) (fun r w' => ∃ σ' α', w' = qw σ' α' κ ρ ∧ qI σ' α' κ ρ ∧ qFr [(58, 11), (58, 12)] [53, 57, 59, 60, 61, 62, 63, 85] σ α σ' α' ∧ σ' 58 12 ≤ σ 58 12 + 48 ∧ σ' 58 12 ≥ σ 58 12 ∧ ∃ v : Int, r = some (.int (qz v)) ∧ ((-2147483648) ≤ v ∧ v ≤ 2147483647) ∧ qSt σ' α') := by
  refine qr_start (d := d + 5) qv_e99 (Nat.le_of_ble_eq_true rfl) ?_
  show qr_W (qe L xs vb) (d + 5) qx_e99 _ (0, [(0, .ref 16), (1, .long (ql x1)), (3, .int (qz x2)), (4, .int (qz x3))], [], _, 0, 0)
  have hF0 := qFr_rf [(58, 11), (58, 12)] [53, 57, 59, 60, 61, 62, 63, 85] σ α
  have hz58_12 : (-2147483648) ≤ σ 58 12 ∧ σ 58 12 ≤ 2147483647 := hI.1 58 12
  refine qr_aload_n 1 rfl rfl rfl ?_
  refine qr_get 4 rfl rfl rfl (by decide) rfl ?_
  refine qr_lload_n 5 rfl rfl rfl ?_
  refine qr_callN 8 rfl rfl rfl (sf_88_17 (d := d + 4) hI r1) ?_
  rintro _ _ ⟨rfl, v1, rfl, hv1⟩
  show qr_W (qe L xs vb) (d + 5) qx_e99 _ (8, _, [.int (qz v1)], qw σ α κ ρ, 0, 0)
  refine qr_if_eq 29 11 rfl rfl rfl (qrg hv1 (by decide) (by decide)) (fun h2 => ?_) (fun h2 => ?_)
  · skip
    refine qr_iconst 30 rfl rfl ?_
    refine qr_retI rfl rfl (by decide) (by decide) ?_
    exact ⟨_, _, rfl, hI, hF0, (by have hw : σ 58 12 = (σ 58 12) := rfl; omega), (by have hw : σ 58 12 = (σ 58 12) := rfl; omega), (-1), rfl, (by decide), p0⟩
  · skip
    refine qr_iload_n 12 rfl rfl rfl ?_
    refine qr_callN 15 rfl rfl rfl (sf_100 (d := d + 2) hI r2) ?_
    rintro _ _ ⟨rfl, v3, rfl, hv3, hp4⟩
    show qr_W (qe L xs vb) (d + 5) qx_e99 _ (15, _, [.int (qz v3)], qw σ α κ ρ, 0, 0)
    refine qr_if_eq 29 18 rfl rfl rfl (qrg hv3 (by decide) (by decide)) (fun h5 => ?_) (fun h5 => ?_)
    · skip
      refine qr_iconst 30 rfl rfl ?_
      refine qr_retI rfl rfl (by decide) (by decide) ?_
      exact ⟨_, _, rfl, hI, hF0, (by have hw : σ 58 12 = (σ 58 12) := rfl; omega), (by have hw : σ 58 12 = (σ 58 12) := rfl; omega), (-1), rfl, (by decide), p0⟩
    · skip
      refine qr_iload 20 rfl rfl rfl ?_
      refine qr_if_lt 29 23 rfl rfl rfl r3 (fun h6 => ?_) (fun h6 => ?_)
      · skip
        refine qr_iconst 30 rfl rfl ?_
        refine qr_retI rfl rfl (by decide) (by decide) ?_
        exact ⟨_, _, rfl, hI, hF0, (by have hw : σ 58 12 = (σ 58 12) := rfl; omega), (by have hw : σ 58 12 = (σ 58 12) := rfl; omega), (-1), rfl, (by decide), p0⟩
      · skip
        refine qr_iload 25 rfl rfl rfl ?_
        refine qr_iconst 26 rfl rfl ?_
        refine qr_icmp_le 31 29 rfl rfl rfl r3 (by decide) (fun h7 => ?_) (fun h7 => ?_)
        · skip
          refine qr_lload_n 32 rfl rfl rfl ?_
          refine qr_aload_n 33 rfl rfl rfl ?_
          refine qr_get 36 rfl rfl rfl (by decide) rfl ?_
          refine qr_get 39 rfl rfl rfl (by decide) rfl ?_
          have hs8 : (-9223372036854775808) ≤ σ 17 5 ∧ σ 17 5 ≤ 9223372036854775807 := hI.1 17 5
          refine qr_ldc2 (-1) 42 rfl (by decide) rfl ?_
          refine qr_lxor 43 rfl rfl ?_
          refine qy_canl (fun v9 hv9 => ?_)
          refine qr_land 44 rfl rfl ?_
          refine qy_canl (fun v10 hv10 => ?_)
          refine qr_lstore _ 46 rfl (by decide) rfl rfl ?_
          refine qr_iload_n 47 rfl rfl rfl ?_
          refine qr_sipush 50 rfl (by decide) rfl ?_
          refine qr_idiv 51 rfl (by omega) (by decide) rfl ?_
          refine qr_istore _ 53 rfl (by decide) rfl rfl ?_
          refine qr_iload_n 54 rfl rfl rfl ?_
          refine qr_sipush 57 rfl (by decide) rfl ?_
          refine qr_irem 58 rfl (by omega) (by decide) rfl ?_
          refine qr_istore _ 60 rfl (by decide) rfl rfl ?_
          refine qr_iload 62 rfl rfl rfl ?_
          refine qr_istore _ 64 rfl (by decide) rfl rfl ?_
          have hL461 : ∀ (n : Nat) (ls : qm_L) (u449 : Int) (σ450 α451 : Nat → Nat → Int), 10000 - u449 < (n : Int) → qm_get ls 0 = some (.ref 16) → qm_get ls 4 = some (.int (qz x3)) → qm_get ls 5 = some (.long (ql v10)) → qm_get ls 7 = some (.int (qz (x2 / 10000))) → qm_get ls 8 = some (.int (qz (x2 % 10000))) → qm_get ls 9 = some (.int (qz u449)) → (0 ≤ u449 ∧ u449 ≤ 10000) → qI σ450 α451 κ ρ → qFr [(58, 11), (58, 12)] [53, 57, 59, 60, 61, 62, 63, 85] σ α σ450 α451 → σ450 17 5 = (σ 17 5) → σ450 58 12 ≤ σ 58 12 + (u449 - (x2 / 10000)) → σ 58 12 ≤ σ450 58 12 → (u449 = (x2 / 10000) ∨ u449 ≤ (x2 % 10000) + 1) → qSt σ450 α451 → (x2 / 10000) ≤ u449 → qr_W (qe L xs vb) (d + 5) qx_e99 (fun r w' => ∃ σ' α', w' = qw σ' α' κ ρ ∧ qI σ' α' κ ρ ∧ qFr [(58, 11), (58, 12)] [53, 57, 59, 60, 61, 62, 63, 85] σ α σ' α' ∧ σ' 58 12 ≤ σ 58 12 + 48 ∧ σ' 58 12 ≥ σ 58 12 ∧ ∃ v : Int, r = some (.int (qz v)) ∧ ((-2147483648) ≤ v ∧ v ≤ 2147483647) ∧ qSt σ' α') (64, ls, [], qw σ450 α451 κ ρ, 0, 0) := by
            intro n
            induction n with
            | zero => intro ls u449 σ450 α451 hm g443 g444 g445 g446 g447 g448 hf455 hI452 hF453 hk454 hx456 hx457 hx458 hx459 hx460; exact False.elim (by omega)
            | succ n ih462 =>
              intro ls u449 σ450 α451 hm g443 g444 g445 g446 g447 g448 hf455 hI452 hF453 hk454 hx456 hx457 hx458 hx459 hx460
              have hs463 : (-2147483648) ≤ σ450 58 12 ∧ σ450 58 12 ≤ 2147483647 := hI452.1 58 12
              refine qr_iload 66 rfl g448 rfl ?_
              refine qr_iload 68 rfl g447 rfl ?_
              refine qr_icmp_gt 154 71 rfl rfl rfl (qrg hf455 (by decide) (by decide)) (by omega) (fun h464 => ?_) (fun h464 => ?_)
              · skip
                refine qr_bipush 156 rfl (by decide) rfl ?_
                refine qr_retI rfl rfl (by decide) (by decide) ?_
                exact ⟨_, _, rfl, hI452, hF453, (by have hw : σ450 58 12 = (σ450 58 12) := rfl; omega), (by have hw : σ450 58 12 = (σ450 58 12) := rfl; omega), (-2), rfl, (by decide), hx459⟩
              · skip
                refine qr_iload 73 rfl g448 rfl ?_
                refine qr_iload 75 rfl g446 rfl ?_
                refine qr_icmp_le 93 78 rfl rfl rfl (qrg hf455 (by decide) (by decide)) (by omega) (fun h465 => ?_) (fun h465 => ?_)
                · skip
                  refine qr_aload_n 94 rfl g443 rfl ?_
                  refine qr_get 97 rfl rfl rfl (by decide) rfl ?_
                  refine qr_iload 99 rfl g448 rfl ?_
                  have hs466 : (-2147483648) ≤ σ450 58 12 ∧ σ450 58 12 ≤ 2147483647 := hI452.1 58 12
                  refine qr_callN 102 rfl rfl rfl (sf_89_58s (d := d + 4) hI452 (qrg hf455 (by decide) (by decide)) hx459 (by omega)) ?_
                  rintro _ _ ⟨σ469, rfl, hI470, hG471, hw468, rfl, hx467⟩
                  have hF472 : qFr [(58, 11), (58, 12)] [53, 57, 59, 60, 61, 62, 63, 85] σ α σ469 α451 := qFr_t hF453 hG471 (by decide) (by decide)
                  have hs473 : (-2147483648) ≤ σ469 58 12 ∧ σ469 58 12 ≤ 2147483647 := hI470.1 58 12
                  show qr_W (qe L xs vb) (d + 5) qx_e99 _ (102, _, [], qw σ469 α451 κ ρ, 0, 0)
                  refine qr_aload_n 103 rfl g443 rfl ?_
                  refine qr_get 106 rfl rfl rfl (by decide) rfl ?_
                  refine qr_lload 108 rfl g445 rfl ?_
                  refine qr_callN 111 rfl rfl rfl (sf_104_58s (d := d + 0) hI470 hv10 hx467) ?_
                  rintro _ _ ⟨α477, rfl, hI478, hG479, v474, rfl, hv474, hp475, hx476⟩
                  have hF480 : qFr [(58, 11), (58, 12)] [53, 57, 59, 60, 61, 62, 63, 85] σ α σ469 α477 := qFr_t hF472 hG479 (by decide) (by decide)
                  show qr_W (qe L xs vb) (d + 5) qx_e99 _ (111, _, [.int (qz v474)], qw σ469 α477 κ ρ, 0, 0)
                  refine qr_istore _ 113 rfl (by decide) rfl rfl ?_
                  refine qr_iload 115 rfl (qm_ge _ _ _) rfl ?_
                  refine qr_if_lt 148 118 rfl rfl rfl (qrg hv474 (by decide) (by decide)) (fun h481 => ?_) (fun h481 => ?_)
                  · skip
                    refine qr_iinc _ 151 rfl (qm_gk g448 (by decide) (Or.inr rfl)) (by decide) rfl rfl ?_
                    refine qr_goto 64 rfl rfl ?_
                    exact ih462 _ (u449 + 1) σ469 α477 (by omega) (qm_gk (qm_gk g443 (by decide) (Or.inl (by decide))) (by decide) (Or.inl (by decide))) (qm_gk (qm_gk g444 (by decide) (Or.inl (by decide))) (by decide) (Or.inl (by decide))) (qm_gk (qm_gk g445 (by decide) (Or.inl (by decide))) (by decide) (Or.inl (by decide))) (qm_gk (qm_gk g446 (by decide) (Or.inl (by decide))) (by decide) (Or.inl (by decide))) (qm_gk (qm_gk g447 (by decide) (Or.inl (by decide))) (by decide) (Or.inr rfl)) (qm_ge _ _ _) (by omega) hI478 hF480 ((hG471.1 17 5 (by decide)).trans ((hk454).trans rfl)) (by have hw : σ469 58 12 = (σ469 58 12) := rfl; omega) (by have hw : σ469 58 12 = (σ469 58 12) := rfl; omega) (by omega) hx476 (by omega)
                  · skip
                    refine qr_iload 120 rfl (qm_gk g444 (by decide) (Or.inl (by decide))) rfl ?_
                    refine qr_if_ne 128 123 rfl rfl rfl r3 (fun h482 => ?_) (fun h482 => ?_)
                    · skip
                      refine qr_iload 130 rfl (qm_gk g444 (by decide) (Or.inl (by decide))) rfl ?_
                      refine qr_iconst 131 rfl rfl ?_
                      refine qr_icmp_ne 142 134 rfl rfl rfl r3 (by decide) (fun h483 => ?_) (fun h483 => ?_)
                      · skip
                        refine qr_iload 144 rfl (qm_ge _ _ _) rfl ?_
                        refine qr_bipush 146 rfl (by decide) rfl ?_
                        refine qr_irem 147 rfl (by omega) (by decide) rfl ?_
                        refine qr_retI rfl rfl (by decide) (by decide) ?_
                        exact ⟨_, _, rfl, hI478, hF480, (by have hw : σ469 58 12 = (σ469 58 12) := rfl; omega), (by have hw : σ469 58 12 = (σ469 58 12) := rfl; omega), (v474 % 100), rfl, (by omega), hx476⟩
                      · skip
                        refine qr_iload 136 rfl (qm_ge _ _ _) rfl ?_
                        refine qr_bipush 138 rfl (by decide) rfl ?_
                        refine qr_idiv 139 rfl (by omega) (by decide) rfl ?_
                        refine qr_goto 147 rfl rfl ?_
                        refine qr_retI rfl rfl (by decide) (by decide) ?_
                        exact ⟨_, _, rfl, hI478, hF480, (by have hw : σ469 58 12 = (σ469 58 12) := rfl; omega), (by have hw : σ469 58 12 = (σ469 58 12) := rfl; omega), (v474 / 100), rfl, (by omega), hx476⟩
                    · skip
                      refine qr_iload 125 rfl (qm_gk g448 (by decide) (Or.inr rfl)) rfl ?_
                      refine qr_goto 147 rfl rfl ?_
                      refine qr_retI rfl rfl (by decide) (by decide) ?_
                      exact ⟨_, _, rfl, hI478, hF480, (by have hw : σ469 58 12 = (σ469 58 12) := rfl; omega), (by have hw : σ469 58 12 = (σ469 58 12) := rfl; omega), u449, rfl, (qrg hf455 (by decide) (by decide)), hx476⟩
                · skip
                  refine qr_aload_n 79 rfl g443 rfl ?_
                  refine qr_get 82 rfl rfl rfl (by decide) rfl ?_
                  refine qr_iload 84 rfl g448 rfl ?_
                  refine qr_callN 87 rfl rfl rfl (sf_101_58 (d := d + 3) hI452 (qrg hf455 (by decide) (by decide))) ?_
                  rintro _ _ ⟨rfl, v484, rfl, hv484⟩
                  show qr_W (qe L xs vb) (d + 5) qx_e99 _ (87, _, [.int (qz v484)], qw σ450 α451 κ ρ, 0, 0)
                  refine qr_if_ne 93 90 rfl rfl rfl (qrg hv484 (by decide) (by decide)) (fun h485 => ?_) (fun h485 => ?_)
                  · skip
                    refine qr_aload_n 94 rfl g443 rfl ?_
                    refine qr_get 97 rfl rfl rfl (by decide) rfl ?_
                    refine qr_iload 99 rfl g448 rfl ?_
                    have hs486 : (-2147483648) ≤ σ450 58 12 ∧ σ450 58 12 ≤ 2147483647 := hI452.1 58 12
                    refine qr_callN 102 rfl rfl rfl (sf_89_58s (d := d + 4) hI452 (qrg hf455 (by decide) (by decide)) hx459 (by omega)) ?_
                    rintro _ _ ⟨σ489, rfl, hI490, hG491, hw488, rfl, hx487⟩
                    have hF492 : qFr [(58, 11), (58, 12)] [53, 57, 59, 60, 61, 62, 63, 85] σ α σ489 α451 := qFr_t hF453 hG491 (by decide) (by decide)
                    have hs493 : (-2147483648) ≤ σ489 58 12 ∧ σ489 58 12 ≤ 2147483647 := hI490.1 58 12
                    show qr_W (qe L xs vb) (d + 5) qx_e99 _ (102, _, [], qw σ489 α451 κ ρ, 0, 0)
                    refine qr_aload_n 103 rfl g443 rfl ?_
                    refine qr_get 106 rfl rfl rfl (by decide) rfl ?_
                    refine qr_lload 108 rfl g445 rfl ?_
                    refine qr_callN 111 rfl rfl rfl (sf_104_58s (d := d + 0) hI490 hv10 hx487) ?_
                    rintro _ _ ⟨α497, rfl, hI498, hG499, v494, rfl, hv494, hp495, hx496⟩
                    have hF500 : qFr [(58, 11), (58, 12)] [53, 57, 59, 60, 61, 62, 63, 85] σ α σ489 α497 := qFr_t hF492 hG499 (by decide) (by decide)
                    show qr_W (qe L xs vb) (d + 5) qx_e99 _ (111, _, [.int (qz v494)], qw σ489 α497 κ ρ, 0, 0)
                    refine qr_istore _ 113 rfl (by decide) rfl rfl ?_
                    refine qr_iload 115 rfl (qm_ge _ _ _) rfl ?_
                    refine qr_if_lt 148 118 rfl rfl rfl (qrg hv494 (by decide) (by decide)) (fun h501 => ?_) (fun h501 => ?_)
                    · skip
                      refine qr_iinc _ 151 rfl (qm_gk g448 (by decide) (Or.inr rfl)) (by decide) rfl rfl ?_
                      refine qr_goto 64 rfl rfl ?_
                      exact ih462 _ (u449 + 1) σ489 α497 (by omega) (qm_gk (qm_gk g443 (by decide) (Or.inl (by decide))) (by decide) (Or.inl (by decide))) (qm_gk (qm_gk g444 (by decide) (Or.inl (by decide))) (by decide) (Or.inl (by decide))) (qm_gk (qm_gk g445 (by decide) (Or.inl (by decide))) (by decide) (Or.inl (by decide))) (qm_gk (qm_gk g446 (by decide) (Or.inl (by decide))) (by decide) (Or.inl (by decide))) (qm_gk (qm_gk g447 (by decide) (Or.inl (by decide))) (by decide) (Or.inr rfl)) (qm_ge _ _ _) (by omega) hI498 hF500 ((hG491.1 17 5 (by decide)).trans ((hk454).trans rfl)) (by have hw : σ489 58 12 = (σ489 58 12) := rfl; omega) (by have hw : σ489 58 12 = (σ489 58 12) := rfl; omega) (by omega) hx496 (by omega)
                    · skip
                      refine qr_iload 120 rfl (qm_gk g444 (by decide) (Or.inl (by decide))) rfl ?_
                      refine qr_if_ne 128 123 rfl rfl rfl r3 (fun h502 => ?_) (fun h502 => ?_)
                      · skip
                        refine qr_iload 130 rfl (qm_gk g444 (by decide) (Or.inl (by decide))) rfl ?_
                        refine qr_iconst 131 rfl rfl ?_
                        refine qr_icmp_ne 142 134 rfl rfl rfl r3 (by decide) (fun h503 => ?_) (fun h503 => ?_)
                        · skip
                          refine qr_iload 144 rfl (qm_ge _ _ _) rfl ?_
                          refine qr_bipush 146 rfl (by decide) rfl ?_
                          refine qr_irem 147 rfl (by omega) (by decide) rfl ?_
                          refine qr_retI rfl rfl (by decide) (by decide) ?_
                          exact ⟨_, _, rfl, hI498, hF500, (by have hw : σ489 58 12 = (σ489 58 12) := rfl; omega), (by have hw : σ489 58 12 = (σ489 58 12) := rfl; omega), (v494 % 100), rfl, (by omega), hx496⟩
                        · skip
                          refine qr_iload 136 rfl (qm_ge _ _ _) rfl ?_
                          refine qr_bipush 138 rfl (by decide) rfl ?_
                          refine qr_idiv 139 rfl (by omega) (by decide) rfl ?_
                          refine qr_goto 147 rfl rfl ?_
                          refine qr_retI rfl rfl (by decide) (by decide) ?_
                          exact ⟨_, _, rfl, hI498, hF500, (by have hw : σ489 58 12 = (σ489 58 12) := rfl; omega), (by have hw : σ489 58 12 = (σ489 58 12) := rfl; omega), (v494 / 100), rfl, (by omega), hx496⟩
                      · skip
                        refine qr_iload 125 rfl (qm_gk g448 (by decide) (Or.inr rfl)) rfl ?_
                        refine qr_goto 147 rfl rfl ?_
                        refine qr_retI rfl rfl (by decide) (by decide) ?_
                        exact ⟨_, _, rfl, hI498, hF500, (by have hw : σ489 58 12 = (σ489 58 12) := rfl; omega), (by have hw : σ489 58 12 = (σ489 58 12) := rfl; omega), u449, rfl, (qrg hf455 (by decide) (by decide)), hx496⟩
                  · skip
                    refine qr_goto 148 rfl rfl ?_
                    refine qr_iinc _ 151 rfl g448 (by decide) rfl rfl ?_
                    refine qr_goto 64 rfl rfl ?_
                    exact ih462 _ (u449 + 1) σ450 α451 (by omega) (qm_gk g443 (by decide) (Or.inl (by decide))) (qm_gk g444 (by decide) (Or.inl (by decide))) (qm_gk g445 (by decide) (Or.inl (by decide))) (qm_gk g446 (by decide) (Or.inl (by decide))) (qm_gk g447 (by decide) (Or.inr rfl)) (qm_ge _ _ _) (by omega) hI452 hF453 ((hk454).trans rfl) (by have hw : σ450 58 12 = (σ450 58 12) := rfl; omega) (by have hw : σ450 58 12 = (σ450 58 12) := rfl; omega) (by omega) hx459 (by omega)
          exact hL461 ((10000 - (x2 / 10000) + 1 : Int)).toNat _ (x2 / 10000) σ α (by omega) rfl rfl rfl rfl rfl rfl (by omega) hI hF0 (rfl) (by have hw : σ 58 12 = (σ 58 12) := rfl; omega) (by have hw : σ 58 12 = (σ 58 12) := rfl; omega) (by omega) p0 (by omega)
        · skip
          refine qr_iconst 30 rfl rfl ?_
          refine qr_retI rfl rfl (by decide) (by decide) ?_
          exact ⟨_, _, rfl, hI, hF0, (by have hw : σ 58 12 = (σ 58 12) := rfl; omega), (by have hw : σ 58 12 = (σ 58 12) := rfl; omega), (-1), rfl, (by decide), p0⟩

set_option maxHeartbeats 4000000 in
set_option maxRecDepth 20000 in
/-- OneRoof.bars -/
theorem sf_105_16s {L : Nat} {xs : Nat → Int} {vb : Bool} {d : Nat} {σ α : Nat → Nat → Int} {κ : Nat → Option Nat} {ρ : Nat} {x1 : Int} {x2 : Int} (hI : qI σ α κ ρ) (r1 : (-2147483648) ≤ x1 ∧ x1 ≤ 2147483647) (r2 : (-2147483648) ≤ x2 ∧ x2 ≤ 2147483647) (p0 : qSt σ α) (p1 : 0 ≤ σ 58 12 ∧ σ 58 12 ≤ 1900000000) : qm_T (qe L xs vb) (d + 7) 105 [.ref 16, .int (qz x1), .int (qz x2)] (qw σ α κ ρ) (fun r w' => ∃ σ' α', w' = qw σ' α' κ ρ ∧ qI σ' α' κ ρ ∧ qFr [(58, 11), (58, 12)] [53, 57, 59, 60, 61, 62, 63, 85] σ α σ' α' ∧ σ' 58 12 ≤ σ 58 12 + 48 ∧ σ' 58 12 ≥ σ 58 12 ∧ ∃ v : Int, r = some (.int (qz v)) ∧ ((-2147483648) ≤ v ∧ v ≤ 2147483647) ∧ qSt σ' α') := by
  refine qr_start (d := d + 6) qv_e105 (Nat.le_of_ble_eq_true rfl) ?_
  show qr_W (qe L xs vb) (d + 6) qx_e105 _ (0, [(0, .ref 16), (1, .int (qz x1)), (2, .int (qz x2))], [], _, 0, 0)
  have hF0 := qFr_rf [(58, 11), (58, 12)] [53, 57, 59, 60, 61, 62, 63, 85] σ α
  have hz58_12 : (-2147483648) ≤ σ 58 12 ∧ σ 58 12 ≤ 2147483647 := hI.1 58 12
  refine qr_aload_n 1 rfl rfl rfl ?_
  refine qr_get 4 rfl rfl rfl (by decide) rfl ?_
  refine qr_iload_n 5 rfl rfl rfl ?_
  refine qr_callN 8 rfl rfl rfl (sf_61_17 (d := d + 4) hI r1) ?_
  have hs3 : 0 ≤ σ 17 6 ∧ σ 17 6 ≤ 32 := hI.1 17 6
  rintro _ _ ⟨rfl, v1, rfl, hv1, hp2⟩
  show qr_W (qe L xs vb) (d + 6) qx_e105 _ (8, _, [.int (qz v1)], qw σ α κ ρ, 0, 0)
  refine qr_if_eq 18 11 rfl rfl rfl (qrg hv1 (by decide) (by decide)) (fun h4 => ?_) (fun h4 => ?_)
  · skip
    refine qr_iconst 19 rfl rfl ?_
    refine qr_retI rfl rfl (by decide) (by decide) ?_
    exact ⟨_, _, rfl, hI, hF0, (by have hw : σ 58 12 = (σ 58 12) := rfl; omega), (by have hw : σ 58 12 = (σ 58 12) := rfl; omega), (-1), rfl, (by decide), p0⟩
  · skip
    refine qr_iload_n 12 rfl rfl rfl ?_
    refine qr_callN 15 rfl rfl rfl (sf_100 (d := d + 3) hI r2) ?_
    rintro _ _ ⟨rfl, v5, rfl, hv5, hp6⟩
    show qr_W (qe L xs vb) (d + 6) qx_e105 _ (15, _, [.int (qz v5)], qw σ α κ ρ, 0, 0)
    refine qr_if_ne 20 18 rfl rfl rfl (qrg hv5 (by decide) (by decide)) (fun h7 => ?_) (fun h7 => ?_)
    · skip
      refine qr_aload_n 21 rfl rfl rfl ?_
      refine qr_get 24 rfl rfl rfl (by decide) rfl ?_
      refine qr_iload_n 25 rfl rfl rfl ?_
      refine qr_bipush 27 rfl (by decide) rfl ?_
      refine qr_idiv 28 rfl (by omega) (by decide) rfl ?_
      refine qr_iload_n 29 rfl rfl rfl ?_
      refine qr_bipush 31 rfl (by decide) rfl ?_
      refine qr_irem 32 rfl (by omega) (by decide) rfl ?_
      refine qr_iload_n 33 rfl rfl rfl ?_
      refine qr_sipush 36 rfl (by decide) rfl ?_
      refine qr_idiv 37 rfl (by omega) (by decide) rfl ?_
      refine qr_iload_n 38 rfl rfl rfl ?_
      refine qr_sipush 41 rfl (by decide) rfl ?_
      refine qr_irem 42 rfl (by omega) (by decide) rfl ?_
      have hs8 : (-2147483648) ≤ σ 58 12 ∧ σ 58 12 ≤ 2147483647 := hI.1 58 12
      refine qr_callN 45 rfl rfl rfl (sf_106_58s (d := d + 0) hI (by omega) (by omega) (by omega) (by omega) (by omega) (by omega) p0 (by omega)) ?_
      rintro _ _ ⟨σ13, α14, rfl, hI15, hG16, hw11, hw12, v9, rfl, hv9, hx10⟩
      have hF17 : qFr [(58, 11), (58, 12)] [53, 57, 59, 60, 61, 62, 63, 85] σ α σ13 α14 := qFr_t hF0 hG16 (by decide) (by decide)
      have hs18 : (-2147483648) ≤ σ13 58 12 ∧ σ13 58 12 ≤ 2147483647 := hI15.1 58 12
      show qr_W (qe L xs vb) (d + 6) qx_e105 _ (45, _, [.int (qz v9)], qw σ13 α14 κ ρ, 0, 0)
      refine qr_if_eq 52 48 rfl rfl rfl (qrg hv9 (by decide) (by decide)) (fun h19 => ?_) (fun h19 => ?_)
      · skip
        refine qr_iconst 53 rfl rfl ?_
        refine qr_retI rfl rfl (by decide) (by decide) ?_
        exact ⟨_, _, rfl, hI15, hF17, (by have hw : σ13 58 12 = (σ13 58 12) := rfl; omega), (by have hw : σ13 58 12 = (σ13 58 12) := rfl; omega), 0, rfl, (by decide), hx10⟩
      · skip
        refine qr_iconst 49 rfl rfl ?_
        refine qr_goto 53 rfl rfl ?_
        refine qr_retI rfl rfl (by decide) (by decide) ?_
        exact ⟨_, _, rfl, hI15, hF17, (by have hw : σ13 58 12 = (σ13 58 12) := rfl; omega), (by have hw : σ13 58 12 = (σ13 58 12) := rfl; omega), 1, rfl, (by decide), hx10⟩
    · skip
      refine qr_iconst 19 rfl rfl ?_
      refine qr_retI rfl rfl (by decide) (by decide) ?_
      exact ⟨_, _, rfl, hI, hF0, (by have hw : σ 58 12 = (σ 58 12) := rfl; omega), (by have hw : σ 58 12 = (σ 58 12) := rfl; omega), (-1), rfl, (by decide), p0⟩

set_option maxHeartbeats 4000000 in
set_option maxRecDepth 20000 in
/-- OneRoof.most -/
theorem sf_108_16s {L : Nat} {xs : Nat → Int} {vb : Bool} {d : Nat} {σ α : Nat → Nat → Int} {κ : Nat → Option Nat} {ρ : Nat} {x1 : Int} {x2 : Int} {x3 : Int} (hI : qI σ α κ ρ) (r1 : (-9223372036854775808) ≤ x1 ∧ x1 ≤ 9223372036854775807) (r2 : (-9223372036854775808) ≤ x2 ∧ x2 ≤ 9223372036854775807) (r3 : (-2147483648) ≤ x3 ∧ x3 ≤ 2147483647) (p0 : qSt σ α) (p1 : 0 ≤ σ 58 12 ∧ σ 58 12 ≤ 1900000000) : qm_T (qe L xs vb) (d + 8) 108 [.ref 16, .long (ql x1), .long (ql x2), .int (qz x3)] (qw σ α κ ρ) (fun r w' => ∃ σ' α', w' = qw σ' α' κ ρ ∧ qI σ' α' κ ρ ∧ qFr [(58, 11), (58, 12), (64, 2)] [53, 57, 59, 60, 61, 62, 63, 65, 66, 85] σ α σ' α' ∧ σ' 58 12 ≤ σ 58 12 + 6912 ∧ σ' 58 12 ≥ σ 58 12 ∧ ∃ v : Int, r = some (.long (ql v)) ∧ ((-9223372036854775808) ≤ v ∧ v ≤ 9223372036854775807) ∧ qSt σ' α') := by
  refine qr_start (d := d + 7) qv_e108 (Nat.le_of_ble_eq_true rfl) ?_
  show qr_W (qe L xs vb) (d + 7) qx_e108 _ (0, [(0, .ref 16), (1, .long (ql x1)), (3, .long (ql x2)), (5, .int (qz x3))], [], _, 0, 0)
  have hF0 := qFr_rf [(58, 11), (58, 12), (64, 2)] [53, 57, 59, 60, 61, 62, 63, 65, 66, 85] σ α
  have hz58_12 : (-2147483648) ≤ σ 58 12 ∧ σ 58 12 ≤ 2147483647 := hI.1 58 12
  refine qr_aload_n 1 rfl rfl rfl ?_
  refine qr_get 4 rfl rfl rfl (by decide) rfl ?_
  refine qr_lload_n 5 rfl rfl rfl ?_
  refine qr_callN 8 rfl rfl rfl (sf_88_17 (d := d + 6) hI r1) ?_
  rintro _ _ ⟨rfl, v1, rfl, hv1⟩
  show qr_W (qe L xs vb) (d + 7) qx_e108 _ (8, _, [.int (qz v1)], qw σ α κ ρ, 0, 0)
  refine qr_if_eq 31 11 rfl rfl rfl (qrg hv1 (by decide) (by decide)) (fun h2 => ?_) (fun h2 => ?_)
  · skip
    refine qr_ldc2 (-1) 34 rfl (by decide) rfl ?_
    refine qr_retL rfl rfl (by decide) (by decide) ?_
    exact ⟨_, _, rfl, hI, hF0, (by have hw : σ 58 12 = (σ 58 12) := rfl; omega), (by have hw : σ 58 12 = (σ 58 12) := rfl; omega), (-1), rfl, (by decide), p0⟩
  · skip
    refine qr_lload_n 12 rfl rfl rfl ?_
    refine qr_lload_n 13 rfl rfl rfl ?_
    refine qr_ldc2 (-1) 16 rfl (by decide) rfl ?_
    refine qr_lxor 17 rfl rfl ?_
    refine qy_canl (fun v3 hv3 => ?_)
    refine qr_land 18 rfl rfl ?_
    refine qy_canl (fun v4 hv4 => ?_)
    refine qr_lconst 19 rfl rfl ?_
    refine qy_vl 0 rfl ?_
    refine qr_lc_ne 31 23 rfl rfl rfl rfl hv4 (by decide) (fun h5 => ?_) (fun h5 => ?_)
    · skip
      refine qr_ldc2 (-1) 34 rfl (by decide) rfl ?_
      refine qr_retL rfl rfl (by decide) (by decide) ?_
      exact ⟨_, _, rfl, hI, hF0, (by have hw : σ 58 12 = (σ 58 12) := rfl; omega), (by have hw : σ 58 12 = (σ 58 12) := rfl; omega), (-1), rfl, (by decide), p0⟩
    · skip
      refine qr_iload 25 rfl rfl rfl ?_
      refine qr_callN 28 rfl rfl rfl (sf_100 (d := d + 4) hI r3) ?_
      rintro _ _ ⟨rfl, v6, rfl, hv6, hp7⟩
      show qr_W (qe L xs vb) (d + 7) qx_e108 _ (28, _, [.int (qz v6)], qw σ α κ ρ, 0, 0)
      refine qr_if_ne 35 31 rfl rfl rfl (qrg hv6 (by decide) (by decide)) (fun h8 => ?_) (fun h8 => ?_)
      · skip
        refine qr_lload_n 36 rfl rfl rfl ?_
        refine qr_aload_n 37 rfl rfl rfl ?_
        refine qr_get 40 rfl rfl rfl (by decide) rfl ?_
        refine qr_get 43 rfl rfl rfl (by decide) rfl ?_
        have hs9 : (-9223372036854775808) ≤ σ 17 5 ∧ σ 17 5 ≤ 9223372036854775807 := hI.1 17 5
        refine qr_ldc2 (-1) 46 rfl (by decide) rfl ?_
        refine qr_lxor 47 rfl rfl ?_
        refine qy_canl (fun v10 hv10 => ?_)
        refine qr_land 48 rfl rfl ?_
        refine qy_canl (fun v11 hv11 => ?_)
        refine qr_lstore _ 50 rfl (by decide) rfl rfl ?_
        refine qr_lload 52 rfl rfl rfl ?_
        refine qr_bipush 54 rfl (by decide) rfl ?_
        refine qr_callN 57 rfl rfl rfl (sf_109 (d := d + 5) hI hv11 (by decide)) ?_
        rintro _ _ ⟨rfl, v12, rfl, hv12, hp13⟩
        show qr_W (qe L xs vb) (d + 7) qx_e108 _ (57, _, [.int (qz v12)], qw σ α κ ρ, 0, 0)
        refine qr_if_ne 64 60 rfl rfl rfl (qrg hv12 (by decide) (by decide)) (fun h14 => ?_) (fun h14 => ?_)
        · skip
          refine qr_aload_n 65 rfl rfl rfl ?_
          refine qr_get 68 rfl rfl rfl (by decide) rfl ?_
          refine qr_lload 70 rfl rfl rfl ?_
          refine qr_callN 73 rfl rfl rfl (sf_110_64 (d := d + 5) hI hv11) ?_
          rintro _ _ ⟨σ16, α17, rfl, hI18, hG19, hw15, rfl⟩
          have hF20 : qFr [(58, 11), (58, 12), (64, 2)] [53, 57, 59, 60, 61, 62, 63, 65, 66, 85] σ α σ16 α17 := qFr_t hF0 hG19 (by decide) (by decide)
          have hs21 : 0 ≤ σ16 64 2 ∧ σ16 64 2 ≤ 12 := hI18.1 64 2
          have hy22 := qSt_fr hG19 (by decide) (by decide) p0
          show qr_W (qe L xs vb) (d + 7) qx_e108 _ (73, _, [], qw σ16 α17 κ ρ, 0, 0)
          refine qr_aload_n 74 rfl rfl rfl ?_
          refine qr_get 77 rfl rfl rfl (by decide) rfl ?_
          refine qr_iload 79 rfl rfl rfl ?_
          refine qr_sipush 82 rfl (by decide) rfl ?_
          refine qr_idiv 83 rfl (by omega) (by decide) rfl ?_
          refine qr_iload 85 rfl rfl rfl ?_
          refine qr_sipush 88 rfl (by decide) rfl ?_
          refine qr_irem 89 rfl (by omega) (by decide) rfl ?_
          have hs23 : (-2147483648) ≤ σ16 58 12 ∧ σ16 58 12 ≤ 2147483647 := hI18.1 58 12
          have hs24 : σ16 58 12 = (σ 58 12) := (hG19.1 58 12 (by decide)).trans rfl
          refine qr_callN 92 rfl rfl rfl (sf_111_64s (d := d + 0) hI18 (by omega) (by omega) (by omega) hy22 (by omega)) ?_
          rintro _ _ ⟨σ28, α29, rfl, hI30, hG31, hw26, hw27, rfl, hx25⟩
          have hF32 : qFr [(58, 11), (58, 12), (64, 2)] [53, 57, 59, 60, 61, 62, 63, 65, 66, 85] σ α σ28 α29 := qFr_t hF20 hG31 (by decide) (by decide)
          have hs33 : (-2147483648) ≤ σ28 58 12 ∧ σ28 58 12 ≤ 2147483647 := hI30.1 58 12
          show qr_W (qe L xs vb) (d + 7) qx_e108 _ (92, _, [], qw σ28 α29 κ ρ, 0, 0)
          refine qr_aload_n 93 rfl rfl rfl ?_
          refine qr_get 96 rfl rfl rfl (by decide) rfl ?_
          refine qr_lload_n 97 rfl rfl rfl ?_
          refine qr_lload 99 rfl rfl rfl ?_
          refine qr_land 100 rfl rfl ?_
          refine qy_canl (fun v34 hv34 => ?_)
          refine qr_callN 103 rfl rfl rfl (sf_112_64 (d := d + 4) hI30 hv34) ?_
          rintro _ _ ⟨rfl, v35, rfl, hv35⟩
          show qr_W (qe L xs vb) (d + 7) qx_e108 _ (103, _, [.long (ql v35)], qw σ28 α29 κ ρ, 0, 0)
          refine qr_retL rfl rfl (by decide) (by decide) ?_
          exact ⟨_, _, rfl, hI30, hF32, (by have hw : σ28 58 12 = (σ28 58 12) := rfl; omega), (by have hw : σ28 58 12 = (σ28 58 12) := rfl; omega), v35, rfl, hv35, hx25⟩
        · skip
          refine qr_ldc2 (-1) 63 rfl (by decide) rfl ?_
          refine qr_retL rfl rfl (by decide) (by decide) ?_
          exact ⟨_, _, rfl, hI, hF0, (by have hw : σ 58 12 = (σ 58 12) := rfl; omega), (by have hw : σ 58 12 = (σ 58 12) := rfl; omega), (-1), rfl, (by decide), p0⟩
      · skip
        refine qr_ldc2 (-1) 34 rfl (by decide) rfl ?_
        refine qr_retL rfl rfl (by decide) (by decide) ?_
        exact ⟨_, _, rfl, hI, hF0, (by have hw : σ 58 12 = (σ 58 12) := rfl; omega), (by have hw : σ 58 12 = (σ 58 12) := rfl; omega), (-1), rfl, (by decide), p0⟩

set_option maxHeartbeats 4000000 in
set_option maxRecDepth 20000 in
/-- OneRoof.rooms -/
theorem sf_117_16s {L : Nat} {xs : Nat → Int} {vb : Bool} {d : Nat} {σ α : Nat → Nat → Int} {κ : Nat → Option Nat} {ρ : Nat} {x1 : Int} {x2 : Int} {x3 : Int} (hI : qI σ α κ ρ) (r1 : (-9223372036854775808) ≤ x1 ∧ x1 ≤ 9223372036854775807) (r2 : (-2147483648) ≤ x2 ∧ x2 ≤ 2147483647) (r3 : (-2147483648) ≤ x3 ∧ x3 ≤ 2147483647) (p0 : qSt σ α) (p1 : 0 ≤ σ 58 12 ∧ σ 58 12 ≤ 1900000000) : qm_T (qe L xs vb) (d + 8) 117 [.ref 16, .long (ql x1), .int (qz x2), .int (qz x3)] (qw σ α κ ρ) (fun r w' => ∃ σ' α', w' = qw σ' α' κ ρ ∧ qI σ' α' κ ρ ∧ qFr [(58, 11), (58, 12), (64, 2)] [53, 57, 59, 60, 61, 62, 63, 65, 66, 67, 85] σ α σ' α' ∧ σ' 58 12 ≤ σ 58 12 + 6912 ∧ σ' 58 12 ≥ σ 58 12 ∧ ∃ v : Int, r = some (.long (ql v)) ∧ ((-9223372036854775808) ≤ v ∧ v ≤ 9223372036854775807) ∧ qSt σ' α') := by
  refine qr_start (d := d + 7) qv_e117 (Nat.le_of_ble_eq_true rfl) ?_
  show qr_W (qe L xs vb) (d + 7) qx_e117 _ (0, [(0, .ref 16), (1, .long (ql x1)), (3, .int (qz x2)), (4, .int (qz x3))], [], _, 0, 0)
  have hF0 := qFr_rf [(58, 11), (58, 12), (64, 2)] [53, 57, 59, 60, 61, 62, 63, 65, 66, 67, 85] σ α
  have hz58_12 : (-2147483648) ≤ σ 58 12 ∧ σ 58 12 ≤ 2147483647 := hI.1 58 12
  refine qr_aload_n 1 rfl rfl rfl ?_
  refine qr_get 4 rfl rfl rfl (by decide) rfl ?_
  refine qr_lload_n 5 rfl rfl rfl ?_
  refine qr_callN 8 rfl rfl rfl (sf_88_17 (d := d + 6) hI r1) ?_
  rintro _ _ ⟨rfl, v1, rfl, hv1⟩
  show qr_W (qe L xs vb) (d + 7) qx_e117 _ (8, _, [.int (qz v1)], qw σ α κ ρ, 0, 0)
  refine qr_if_eq 26 11 rfl rfl rfl (qrg hv1 (by decide) (by decide)) (fun h2 => ?_) (fun h2 => ?_)
  · skip
    refine qr_ldc2 (-1) 29 rfl (by decide) rfl ?_
    refine qr_retL rfl rfl (by decide) (by decide) ?_
    exact ⟨_, _, rfl, hI, hF0, (by have hw : σ 58 12 = (σ 58 12) := rfl; omega), (by have hw : σ 58 12 = (σ 58 12) := rfl; omega), (-1), rfl, (by decide), p0⟩
  · skip
    refine qr_iload_n 12 rfl rfl rfl ?_
    refine qr_callN 15 rfl rfl rfl (sf_100 (d := d + 4) hI r2) ?_
    rintro _ _ ⟨rfl, v3, rfl, hv3, hp4⟩
    show qr_W (qe L xs vb) (d + 7) qx_e117 _ (15, _, [.int (qz v3)], qw σ α κ ρ, 0, 0)
    refine qr_if_eq 26 18 rfl rfl rfl (qrg hv3 (by decide) (by decide)) (fun h5 => ?_) (fun h5 => ?_)
    · skip
      refine qr_ldc2 (-1) 29 rfl (by decide) rfl ?_
      refine qr_retL rfl rfl (by decide) (by decide) ?_
      exact ⟨_, _, rfl, hI, hF0, (by have hw : σ 58 12 = (σ 58 12) := rfl; omega), (by have hw : σ 58 12 = (σ 58 12) := rfl; omega), (-1), rfl, (by decide), p0⟩
    · skip
      refine qr_iload 20 rfl rfl rfl ?_
      refine qr_callN 23 rfl rfl rfl (sf_41 (d := d + 6) hI r3) ?_
      rintro _ _ ⟨rfl, v6, rfl, hv6, hp7⟩
      show qr_W (qe L xs vb) (d + 7) qx_e117 _ (23, _, [.int (qz v6)], qw σ α κ ρ, 0, 0)
      refine qr_if_ne 30 26 rfl rfl rfl (qrg hv6 (by decide) (by decide)) (fun h8 => ?_) (fun h8 => ?_)
      · skip
        refine qr_lload_n 31 rfl rfl rfl ?_
        refine qr_aload_n 32 rfl rfl rfl ?_
        refine qr_get 35 rfl rfl rfl (by decide) rfl ?_
        refine qr_get 38 rfl rfl rfl (by decide) rfl ?_
        have hs9 : (-9223372036854775808) ≤ σ 17 5 ∧ σ 17 5 ≤ 9223372036854775807 := hI.1 17 5
        refine qr_ldc2 (-1) 41 rfl (by decide) rfl ?_
        refine qr_lxor 42 rfl rfl ?_
        refine qy_canl (fun v10 hv10 => ?_)
        refine qr_land 43 rfl rfl ?_
        refine qy_canl (fun v11 hv11 => ?_)
        refine qr_lstore _ 45 rfl (by decide) rfl rfl ?_
        refine qr_lload 47 rfl rfl rfl ?_
        refine qr_bipush 49 rfl (by decide) rfl ?_
        refine qr_callN 52 rfl rfl rfl (sf_109 (d := d + 5) hI hv11 (by decide)) ?_
        rintro _ _ ⟨rfl, v12, rfl, hv12, hp13⟩
        show qr_W (qe L xs vb) (d + 7) qx_e117 _ (52, _, [.int (qz v12)], qw σ α κ ρ, 0, 0)
        refine qr_if_ne 59 55 rfl rfl rfl (qrg hv12 (by decide) (by decide)) (fun h14 => ?_) (fun h14 => ?_)
        · skip
          refine qr_aload_n 60 rfl rfl rfl ?_
          refine qr_get 63 rfl rfl rfl (by decide) rfl ?_
          refine qr_lload 65 rfl rfl rfl ?_
          refine qr_callN 68 rfl rfl rfl (sf_110_64 (d := d + 5) hI hv11) ?_
          rintro _ _ ⟨σ16, α17, rfl, hI18, hG19, hw15, rfl⟩
          have hF20 : qFr [(58, 11), (58, 12), (64, 2)] [53, 57, 59, 60, 61, 62, 63, 65, 66, 67, 85] σ α σ16 α17 := qFr_t hF0 hG19 (by decide) (by decide)
          have hs21 : 0 ≤ σ16 64 2 ∧ σ16 64 2 ≤ 12 := hI18.1 64 2
          have hy22 := qSt_fr hG19 (by decide) (by decide) p0
          show qr_W (qe L xs vb) (d + 7) qx_e117 _ (68, _, [], qw σ16 α17 κ ρ, 0, 0)
          refine qr_aload_n 69 rfl rfl rfl ?_
          refine qr_get 72 rfl rfl rfl (by decide) rfl ?_
          refine qr_iload_n 73 rfl rfl rfl ?_
          refine qr_sipush 76 rfl (by decide) rfl ?_
          refine qr_idiv 77 rfl (by omega) (by decide) rfl ?_
          refine qr_iload_n 78 rfl rfl rfl ?_
          refine qr_sipush 81 rfl (by decide) rfl ?_
          refine qr_irem 82 rfl (by omega) (by decide) rfl ?_
          have hs23 : (-2147483648) ≤ σ16 58 12 ∧ σ16 58 12 ≤ 2147483647 := hI18.1 58 12
          have hs24 : σ16 58 12 = (σ 58 12) := (hG19.1 58 12 (by decide)).trans rfl
          refine qr_callN 85 rfl rfl rfl (sf_111_64s (d := d + 0) hI18 (by omega) (by omega) (by omega) hy22 (by omega)) ?_
          rintro _ _ ⟨σ28, α29, rfl, hI30, hG31, hw26, hw27, rfl, hx25⟩
          have hF32 : qFr [(58, 11), (58, 12), (64, 2)] [53, 57, 59, 60, 61, 62, 63, 65, 66, 67, 85] σ α σ28 α29 := qFr_t hF20 hG31 (by decide) (by decide)
          have hs33 : (-2147483648) ≤ σ28 58 12 ∧ σ28 58 12 ≤ 2147483647 := hI30.1 58 12
          show qr_W (qe L xs vb) (d + 7) qx_e117 _ (85, _, [], qw σ28 α29 κ ρ, 0, 0)
          refine qr_aload_n 86 rfl rfl rfl ?_
          refine qr_get 89 rfl rfl rfl (by decide) rfl ?_
          refine qr_iload 91 rfl rfl rfl ?_
          refine qr_callN 94 rfl rfl rfl (sf_118_64 (d := d + 4) hI30 r3) ?_
          rintro _ _ ⟨α35, rfl, hI36, hG37, v34, rfl, hv34⟩
          have hF38 : qFr [(58, 11), (58, 12), (64, 2)] [53, 57, 59, 60, 61, 62, 63, 65, 66, 67, 85] σ α σ28 α35 := qFr_t hF32 hG37 (by decide) (by decide)
          have hy39 := qSt_fr hG37 (by decide) (by decide) hx25
          show qr_W (qe L xs vb) (d + 7) qx_e117 _ (94, _, [.long (ql v34)], qw σ28 α35 κ ρ, 0, 0)
          refine qr_retL rfl rfl (by decide) (by decide) ?_
          exact ⟨_, _, rfl, hI36, hF38, (by have hw : σ28 58 12 = (σ28 58 12) := rfl; omega), (by have hw : σ28 58 12 = (σ28 58 12) := rfl; omega), v34, rfl, hv34, hy39⟩
        · skip
          refine qr_ldc2 (-1) 58 rfl (by decide) rfl ?_
          refine qr_retL rfl rfl (by decide) (by decide) ?_
          exact ⟨_, _, rfl, hI, hF0, (by have hw : σ 58 12 = (σ 58 12) := rfl; omega), (by have hw : σ 58 12 = (σ 58 12) := rfl; omega), (-1), rfl, (by decide), p0⟩
      · skip
        refine qr_ldc2 (-1) 29 rfl (by decide) rfl ?_
        refine qr_retL rfl rfl (by decide) (by decide) ?_
        exact ⟨_, _, rfl, hI, hF0, (by have hw : σ 58 12 = (σ 58 12) := rfl; omega), (by have hw : σ 58 12 = (σ 58 12) := rfl; omega), (-1), rfl, (by decide), p0⟩

set_option maxHeartbeats 4000000 in
set_option maxRecDepth 20000 in
/-- OneRoof.buy -/
theorem sf_120_16s {L : Nat} {xs : Nat → Int} {vb : Bool} {d : Nat} {σ α : Nat → Nat → Int} {κ : Nat → Option Nat} {ρ : Nat} {x1 : Int} {x2 : Int} {x3 : Int} (hI : qI σ α κ ρ) (r1 : (-9223372036854775808) ≤ x1 ∧ x1 ≤ 9223372036854775807) (r2 : (-2147483648) ≤ x2 ∧ x2 ≤ 2147483647) (r3 : (-2147483648) ≤ x3 ∧ x3 ≤ 2147483647) (p0 : σ 27 6 = 0) (p1 : qSt σ α) (p2 : 0 ≤ σ 58 12 ∧ σ 58 12 ≤ 1900000000) : qm_T (qe L xs vb) (d + 8) 120 [.ref 16, .long (ql x1), .int (qz x2), .int (qz x3)] (qw σ α κ ρ) (fun r w' => ∃ σ' α', w' = qw σ' α' κ ρ ∧ qI σ' α' κ ρ ∧ qFr [(27, 6), (58, 11), (58, 12), (64, 2)] [53, 57, 59, 60, 61, 62, 63, 65, 85] σ α σ' α' ∧ σ' 58 12 ≤ σ 58 12 + 528 ∧ σ' 58 12 ≥ σ 58 12 ∧ σ' 27 6 = 0 ∧ ∃ v : Int, r = some (.long (ql v)) ∧ ((-9223372036854775808) ≤ v ∧ v ≤ 9223372036854775807) ∧ qSt σ' α') := by
  refine qr_start (d := d + 7) qv_e120 (Nat.le_of_ble_eq_true rfl) ?_
  show qr_W (qe L xs vb) (d + 7) qx_e120 _ (0, [(0, .ref 16), (1, .long (ql x1)), (3, .int (qz x2)), (4, .int (qz x3))], [], _, 0, 0)
  have hF0 := qFr_rf [(27, 6), (58, 11), (58, 12), (64, 2)] [53, 57, 59, 60, 61, 62, 63, 65, 85] σ α
  have hz27_6 : (-9223372036854775808) ≤ σ 27 6 ∧ σ 27 6 ≤ 9223372036854775807 := hI.1 27 6
  have hz58_12 : (-2147483648) ≤ σ 58 12 ∧ σ 58 12 ≤ 2147483647 := hI.1 58 12
  refine qr_aload_n 1 rfl rfl rfl ?_
  refine qr_get 4 rfl rfl rfl (by decide) rfl ?_
  refine qr_lload_n 5 rfl rfl rfl ?_
  refine qr_callN 8 rfl rfl rfl (sf_88_17 (d := d + 6) hI r1) ?_
  rintro _ _ ⟨rfl, v1, rfl, hv1⟩
  show qr_W (qe L xs vb) (d + 7) qx_e120 _ (8, _, [.int (qz v1)], qw σ α κ ρ, 0, 0)
  refine qr_if_eq 26 11 rfl rfl rfl (qrg hv1 (by decide) (by decide)) (fun h2 => ?_) (fun h2 => ?_)
  · skip
    refine qr_ldc2 (-1) 29 rfl (by decide) rfl ?_
    refine qr_retL rfl rfl (by decide) (by decide) ?_
    exact ⟨_, _, rfl, hI, hF0, (by have hw : σ 58 12 = (σ 58 12) := rfl; omega), (by have hw : σ 58 12 = (σ 58 12) := rfl; omega), (by have hw : σ 27 6 = (σ 27 6) := rfl; omega), (-1), rfl, (by decide), p1⟩
  · skip
    refine qr_iload_n 12 rfl rfl rfl ?_
    refine qr_callN 15 rfl rfl rfl (sf_100 (d := d + 4) hI r2) ?_
    rintro _ _ ⟨rfl, v3, rfl, hv3, hp4⟩
    show qr_W (qe L xs vb) (d + 7) qx_e120 _ (15, _, [.int (qz v3)], qw σ α κ ρ, 0, 0)
    refine qr_if_eq 26 18 rfl rfl rfl (qrg hv3 (by decide) (by decide)) (fun h5 => ?_) (fun h5 => ?_)
    · skip
      refine qr_ldc2 (-1) 29 rfl (by decide) rfl ?_
      refine qr_retL rfl rfl (by decide) (by decide) ?_
      exact ⟨_, _, rfl, hI, hF0, (by have hw : σ 58 12 = (σ 58 12) := rfl; omega), (by have hw : σ 58 12 = (σ 58 12) := rfl; omega), (by have hw : σ 27 6 = (σ 27 6) := rfl; omega), (-1), rfl, (by decide), p1⟩
    · skip
      refine qr_iload 20 rfl rfl rfl ?_
      refine qr_callN 23 rfl rfl rfl (sf_41 (d := d + 6) hI r3) ?_
      rintro _ _ ⟨rfl, v6, rfl, hv6, hp7⟩
      show qr_W (qe L xs vb) (d + 7) qx_e120 _ (23, _, [.int (qz v6)], qw σ α κ ρ, 0, 0)
      refine qr_if_ne 30 26 rfl rfl rfl (qrg hv6 (by decide) (by decide)) (fun h8 => ?_) (fun h8 => ?_)
      · skip
        refine qr_lload_n 31 rfl rfl rfl ?_
        refine qr_aload_n 32 rfl rfl rfl ?_
        refine qr_get 35 rfl rfl rfl (by decide) rfl ?_
        refine qr_get 38 rfl rfl rfl (by decide) rfl ?_
        have hs9 : (-9223372036854775808) ≤ σ 17 5 ∧ σ 17 5 ≤ 9223372036854775807 := hI.1 17 5
        refine qr_ldc2 (-1) 41 rfl (by decide) rfl ?_
        refine qr_lxor 42 rfl rfl ?_
        refine qy_canl (fun v10 hv10 => ?_)
        refine qr_land 43 rfl rfl ?_
        refine qy_canl (fun v11 hv11 => ?_)
        refine qr_lstore _ 45 rfl (by decide) rfl rfl ?_
        refine qr_lload 47 rfl rfl rfl ?_
        refine qr_bipush 49 rfl (by decide) rfl ?_
        refine qr_callN 52 rfl rfl rfl (sf_109 (d := d + 5) hI hv11 (by decide)) ?_
        rintro _ _ ⟨rfl, v12, rfl, hv12, hp13⟩
        show qr_W (qe L xs vb) (d + 7) qx_e120 _ (52, _, [.int (qz v12)], qw σ α κ ρ, 0, 0)
        refine qr_if_ne 59 55 rfl rfl rfl (qrg hv12 (by decide) (by decide)) (fun h14 => ?_) (fun h14 => ?_)
        · skip
          refine qr_aload_n 60 rfl rfl rfl ?_
          refine qr_get 63 rfl rfl rfl (by decide) rfl ?_
          refine qr_lload 65 rfl rfl rfl ?_
          refine qr_callN 68 rfl rfl rfl (sf_110_64 (d := d + 5) hI hv11) ?_
          rintro _ _ ⟨σ16, α17, rfl, hI18, hG19, hw15, rfl⟩
          have hF20 : qFr [(27, 6), (58, 11), (58, 12), (64, 2)] [53, 57, 59, 60, 61, 62, 63, 65, 85] σ α σ16 α17 := qFr_t hF0 hG19 (by decide) (by decide)
          have hs21 : 0 ≤ σ16 64 2 ∧ σ16 64 2 ≤ 12 := hI18.1 64 2
          have hy22 := qSt_fr hG19 (by decide) (by decide) p1
          show qr_W (qe L xs vb) (d + 7) qx_e120 _ (68, _, [], qw σ16 α17 κ ρ, 0, 0)
          refine qr_aload_n 69 rfl rfl rfl ?_
          refine qr_get 72 rfl rfl rfl (by decide) rfl ?_
          refine qr_iload_n 73 rfl rfl rfl ?_
          refine qr_sipush 76 rfl (by decide) rfl ?_
          refine qr_idiv 77 rfl (by omega) (by decide) rfl ?_
          refine qr_iload_n 78 rfl rfl rfl ?_
          refine qr_sipush 81 rfl (by decide) rfl ?_
          refine qr_irem 82 rfl (by omega) (by decide) rfl ?_
          refine qr_iload 84 rfl rfl rfl ?_
          have hs23 : (-9223372036854775808) ≤ σ16 27 6 ∧ σ16 27 6 ≤ 9223372036854775807 := hI18.1 27 6
          have hs24 : σ16 27 6 = (σ 27 6) := (hG19.1 27 6 (by decide)).trans rfl
          have hs25 : (-2147483648) ≤ σ16 58 12 ∧ σ16 58 12 ≤ 2147483647 := hI18.1 58 12
          have hs26 : σ16 58 12 = (σ 58 12) := (hG19.1 58 12 (by decide)).trans rfl
          refine qr_callN 87 rfl rfl rfl (sf_121_64s (d := d + 0) hI18 (by omega) (by omega) r3 (by omega) (by omega) hy22 (by omega)) ?_
          rintro _ _ ⟨σ32, α33, rfl, hI34, hG35, hw29, hw30, hw31, v27, rfl, hv27, hx28⟩
          have hF36 : qFr [(27, 6), (58, 11), (58, 12), (64, 2)] [53, 57, 59, 60, 61, 62, 63, 65, 85] σ α σ32 α33 := qFr_t hF20 hG35 (by decide) (by decide)
          have hs37 : (-9223372036854775808) ≤ σ32 27 6 ∧ σ32 27 6 ≤ 9223372036854775807 := hI34.1 27 6
          have hs38 : (-2147483648) ≤ σ32 58 12 ∧ σ32 58 12 ≤ 2147483647 := hI34.1 58 12
          show qr_W (qe L xs vb) (d + 7) qx_e120 _ (87, _, [.long (ql v27)], qw σ32 α33 κ ρ, 0, 0)
          refine qr_retL rfl rfl (by decide) (by decide) ?_
          exact ⟨_, _, rfl, hI34, hF36, (by have hw : σ32 58 12 = (σ32 58 12) := rfl; omega), (by have hw : σ32 58 12 = (σ32 58 12) := rfl; omega), (by have hw : σ32 27 6 = (σ32 27 6) := rfl; omega), v27, rfl, hv27, hx28⟩
        · skip
          refine qr_ldc2 (-1) 58 rfl (by decide) rfl ?_
          refine qr_retL rfl rfl (by decide) (by decide) ?_
          exact ⟨_, _, rfl, hI, hF0, (by have hw : σ 58 12 = (σ 58 12) := rfl; omega), (by have hw : σ 58 12 = (σ 58 12) := rfl; omega), (by have hw : σ 27 6 = (σ 27 6) := rfl; omega), (-1), rfl, (by decide), p1⟩
      · skip
        refine qr_ldc2 (-1) 29 rfl (by decide) rfl ?_
        refine qr_retL rfl rfl (by decide) (by decide) ?_
        exact ⟨_, _, rfl, hI, hF0, (by have hw : σ 58 12 = (σ 58 12) := rfl; omega), (by have hw : σ 58 12 = (σ 58 12) := rfl; omega), (by have hw : σ 27 6 = (σ 27 6) := rfl; omega), (-1), rfl, (by decide), p1⟩

set_option maxHeartbeats 4000000 in
set_option maxRecDepth 20000 in
/-- OneRoof.must -/
theorem sf_87_16s {L : Nat} {xs : Nat → Int} {vb : Bool} {d : Nat} {σ α : Nat → Nat → Int} {κ : Nat → Option Nat} {ρ : Nat} {x1 : Int} {x2 : Int} {x3 : Int} (hI : qI σ α κ ρ) (r1 : (-2147483648) ≤ x1 ∧ x1 ≤ 2147483647) (r2 : (-9223372036854775808) ≤ x2 ∧ x2 ≤ 9223372036854775807) (r3 : (-2147483648) ≤ x3 ∧ x3 ≤ 2147483647) (p0 : qSt σ α) (p1 : 0 ≤ σ 58 12 ∧ σ 58 12 ≤ 1900000000) : qm_T (qe L xs vb) (d + 5) 87 [.ref 16, .int (qz x1), .long (ql x2), .int (qz x3)] (qw σ α κ ρ) (fun r w' => ∃ σ' α', w' = qw σ' α' κ ρ ∧ qI σ' α' κ ρ ∧ qFr [(58, 11), (58, 12)] [53, 57, 59, 60, 61, 62, 63, 85] σ α σ' α' ∧ σ' 58 12 ≤ σ 58 12 + 1 ∧ σ' 58 12 ≥ σ 58 12 ∧ ∃ v : Int, r = some (.int (qz v)) ∧ ((-2147483648) ≤ v ∧ v ≤ 2147483647) ∧ qSt σ' α') := by
  refine qr_start (d := d + 4) qv_e87 (Nat.le_of_ble_eq_true rfl) ?_
  show qr_W (qe L xs vb) (d + 4) qx_e87 _ (0, [(0, .ref 16), (1, .int (qz x1)), (2, .long (ql x2)), (4, .int (qz x3))], [], _, 0, 0)
  have hF0 := qFr_rf [(58, 11), (58, 12)] [53, 57, 59, 60, 61, 62, 63, 85] σ α
  have hz58_12 : (-2147483648) ≤ σ 58 12 ∧ σ 58 12 ≤ 2147483647 := hI.1 58 12
  refine qr_aload_n 1 rfl rfl rfl ?_
  refine qr_get 4 rfl rfl rfl (by decide) rfl ?_
  refine qr_iload_n 5 rfl rfl rfl ?_
  refine qr_callN 8 rfl rfl rfl (sf_61_17 (d := d + 2) hI r1) ?_
  have hs3 : 0 ≤ σ 17 6 ∧ σ 17 6 ≤ 32 := hI.1 17 6
  rintro _ _ ⟨rfl, v1, rfl, hv1, hp2⟩
  show qr_W (qe L xs vb) (d + 4) qx_e87 _ (8, _, [.int (qz v1)], qw σ α κ ρ, 0, 0)
  refine qr_if_eq 30 11 rfl rfl rfl (qrg hv1 (by decide) (by decide)) (fun h4 => ?_) (fun h4 => ?_)
  · skip
    refine qr_ldc (-2000000000) 32 rfl (by decide) rfl ?_
    refine qr_retI rfl rfl (by decide) (by decide) ?_
    exact ⟨_, _, rfl, hI, hF0, (by have hw : σ 58 12 = (σ 58 12) := rfl; omega), (by have hw : σ 58 12 = (σ 58 12) := rfl; omega), (-2000000000), rfl, (by decide), p0⟩
  · skip
    refine qr_aload_n 12 rfl rfl rfl ?_
    refine qr_get 15 rfl rfl rfl (by decide) rfl ?_
    refine qr_lload_n 16 rfl rfl rfl ?_
    refine qr_callN 19 rfl rfl rfl (sf_88_17 (d := d + 3) hI r2) ?_
    rintro _ _ ⟨rfl, v5, rfl, hv5⟩
    show qr_W (qe L xs vb) (d + 4) qx_e87 _ (19, _, [.int (qz v5)], qw σ α κ ρ, 0, 0)
    refine qr_if_eq 30 22 rfl rfl rfl (qrg hv5 (by decide) (by decide)) (fun h6 => ?_) (fun h6 => ?_)
    · skip
      refine qr_ldc (-2000000000) 32 rfl (by decide) rfl ?_
      refine qr_retI rfl rfl (by decide) (by decide) ?_
      exact ⟨_, _, rfl, hI, hF0, (by have hw : σ 58 12 = (σ 58 12) := rfl; omega), (by have hw : σ 58 12 = (σ 58 12) := rfl; omega), (-2000000000), rfl, (by decide), p0⟩
    · skip
      refine qr_iload 24 rfl rfl rfl ?_
      refine qr_callN 27 rfl rfl rfl (sf_62 (d := d + 3) hI r3) ?_
      rintro _ _ ⟨rfl, v7, rfl, hv7, hp8⟩
      show qr_W (qe L xs vb) (d + 4) qx_e87 _ (27, _, [.int (qz v7)], qw σ α κ ρ, 0, 0)
      refine qr_if_ne 33 30 rfl rfl rfl (qrg hv7 (by decide) (by decide)) (fun h9 => ?_) (fun h9 => ?_)
      · skip
        refine qr_lload_n 34 rfl rfl rfl ?_
        refine qr_aload_n 35 rfl rfl rfl ?_
        refine qr_get 38 rfl rfl rfl (by decide) rfl ?_
        refine qr_get 41 rfl rfl rfl (by decide) rfl ?_
        have hs10 : (-9223372036854775808) ≤ σ 17 5 ∧ σ 17 5 ≤ 9223372036854775807 := hI.1 17 5
        refine qr_ldc2 (-1) 44 rfl (by decide) rfl ?_
        refine qr_lxor 45 rfl rfl ?_
        refine qy_canl (fun v11 hv11 => ?_)
        refine qr_land 46 rfl rfl ?_
        refine qy_canl (fun v12 hv12 => ?_)
        refine qr_lstore _ 48 rfl (by decide) rfl rfl ?_
        refine qr_lload 50 rfl rfl rfl ?_
        refine qr_iload_n 51 rfl rfl rfl ?_
        refine qr_bipush 53 rfl (by decide) rfl ?_
        refine qr_idiv 54 rfl (by omega) (by decide) rfl ?_
        refine qr_callN 57 rfl rfl rfl (sf_50 (d := d + 3) hI hv12 (by omega)) ?_
        rintro _ _ ⟨rfl, v13, rfl, hv13⟩
        show qr_W (qe L xs vb) (d + 4) qx_e87 _ (57, _, [.int (qz v13)], qw σ α κ ρ, 0, 0)
        refine qr_if_eq 72 60 rfl rfl rfl (qrg hv13 (by decide) (by decide)) (fun h14 => ?_) (fun h14 => ?_)
        · skip
          refine qr_ldc (-2000000000) 74 rfl (by decide) rfl ?_
          refine qr_retI rfl rfl (by decide) (by decide) ?_
          exact ⟨_, _, rfl, hI, hF0, (by have hw : σ 58 12 = (σ 58 12) := rfl; omega), (by have hw : σ 58 12 = (σ 58 12) := rfl; omega), (-2000000000), rfl, (by decide), p0⟩
        · skip
          refine qr_lload 62 rfl rfl rfl ?_
          refine qr_iload_n 63 rfl rfl rfl ?_
          refine qr_bipush 65 rfl (by decide) rfl ?_
          refine qr_irem 66 rfl (by omega) (by decide) rfl ?_
          refine qr_callN 69 rfl rfl rfl (sf_50 (d := d + 3) hI hv12 (by omega)) ?_
          rintro _ _ ⟨rfl, v15, rfl, hv15⟩
          show qr_W (qe L xs vb) (d + 4) qx_e87 _ (69, _, [.int (qz v15)], qw σ α κ ρ, 0, 0)
          refine qr_if_ne 75 72 rfl rfl rfl (qrg hv15 (by decide) (by decide)) (fun h16 => ?_) (fun h16 => ?_)
          · skip
            refine qr_aload_n 76 rfl rfl rfl ?_
            refine qr_get 79 rfl rfl rfl (by decide) rfl ?_
            refine qr_iload 81 rfl rfl rfl ?_
            have hs17 : (-2147483648) ≤ σ 58 12 ∧ σ 58 12 ≤ 2147483647 := hI.1 58 12
            refine qr_callN 84 rfl rfl rfl (sf_89_58s (d := d + 3) hI r3 p0 (by omega)) ?_
            rintro _ _ ⟨σ20, rfl, hI21, hG22, hw19, rfl, hx18⟩
            have hF23 : qFr [(58, 11), (58, 12)] [53, 57, 59, 60, 61, 62, 63, 85] σ α σ20 α := qFr_t hF0 hG22 (by decide) (by decide)
            have hs24 : (-2147483648) ≤ σ20 58 12 ∧ σ20 58 12 ≤ 2147483647 := hI21.1 58 12
            show qr_W (qe L xs vb) (d + 4) qx_e87 _ (84, _, [], qw σ20 α κ ρ, 0, 0)
            refine qr_aload_n 85 rfl rfl rfl ?_
            refine qr_get 88 rfl rfl rfl (by decide) rfl ?_
            refine qr_iconst 89 rfl rfl ?_
            refine qr_iload_n 90 rfl rfl rfl ?_
            refine qr_bipush 92 rfl (by decide) rfl ?_
            refine qr_idiv 93 rfl (by omega) (by decide) rfl ?_
            refine qr_iload_n 94 rfl rfl rfl ?_
            refine qr_bipush 96 rfl (by decide) rfl ?_
            refine qr_irem 97 rfl (by omega) (by decide) rfl ?_
            refine qr_iconst 98 rfl rfl ?_
            refine qr_lload 100 rfl rfl rfl ?_
            refine qr_callN 103 rfl rfl rfl (sf_90_58s (d := d + 0) hI21 (by decide) (by omega) (by omega) (by decide) hv12 (by omega) hx18) ?_
            rintro _ _ ⟨α27, rfl, hI28, hG29, v25, rfl, hv25, hx26⟩
            have hF30 : qFr [(58, 11), (58, 12)] [53, 57, 59, 60, 61, 62, 63, 85] σ α σ20 α27 := qFr_t hF23 hG29 (by decide) (by decide)
            show qr_W (qe L xs vb) (d + 4) qx_e87 _ (103, _, [.int (qz v25)], qw σ20 α27 κ ρ, 0, 0)
            refine qr_retI rfl rfl (by decide) (by decide) ?_
            exact ⟨_, _, rfl, hI28, hF30, (by have hw : σ20 58 12 = (σ20 58 12) := rfl; omega), (by have hw : σ20 58 12 = (σ20 58 12) := rfl; omega), v25, rfl, hv25, hx26⟩
          · skip
            refine qr_ldc (-2000000000) 74 rfl (by decide) rfl ?_
            refine qr_retI rfl rfl (by decide) (by decide) ?_
            exact ⟨_, _, rfl, hI, hF0, (by have hw : σ 58 12 = (σ 58 12) := rfl; omega), (by have hw : σ 58 12 = (σ 58 12) := rfl; omega), (-2000000000), rfl, (by decide), p0⟩
      · skip
        refine qr_ldc (-2000000000) 32 rfl (by decide) rfl ?_
        refine qr_retI rfl rfl (by decide) (by decide) ?_
        exact ⟨_, _, rfl, hI, hF0, (by have hw : σ 58 12 = (σ 58 12) := rfl; omega), (by have hw : σ 58 12 = (σ 58 12) := rfl; omega), (-2000000000), rfl, (by decide), p0⟩
