theorem qcl_v {a b c d t e v : Int} (h : (a ≤ t ∧ b ≤ t ∧ e = a + b) ∨ (¬ (a ≤ t ∧ b ≤ t) ∧ e = 9)) (g : (c ≤ t ∧ d ≤ t ∧ c + d < e ∧ v = c + d) ∨ (¬ (c ≤ t ∧ d ≤ t ∧ c + d < e) ∧ v = e)) : v = qcl a b c d t := by
  have he : (if a ≤ t ∧ b ≤ t then a + b else 9) = e := by
    rcases h with ⟨h1, h2, h3⟩ | ⟨h1, h2⟩
    · rw [if_pos ⟨h1, h2⟩, h3]
    · rw [if_neg h1, h2]
  unfold qcl
  rw [he]
  rcases g with ⟨g1, g2, g3, g4⟩ | ⟨g1, g2⟩
  · rw [if_pos ⟨g1, g2, g3⟩, g4]
  · rw [if_neg g1, g2]
theorem qcl_m {A B C D t a b : Int} (ha : ((A ≤ t ∧ B ≤ t) ∧ a = A + B) ∨ (¬ (A ≤ t ∧ B ≤ t) ∧ a = 99)) (hb : ((C ≤ t ∧ D ≤ t) ∧ b = C + D) ∨ (¬ (C ≤ t ∧ D ≤ t) ∧ b = 99)) (hA : 0 ≤ A) (hB : 0 ≤ B) (hC : 0 ≤ C) (hD : 0 ≤ D) (ht : t ≤ 3) : (0 ≤ a ∧ a ≤ 6 ∧ a ≤ b ∧ qcl A B C D t = a) ∨ (0 ≤ b ∧ b ≤ 6 ∧ b < a ∧ qcl A B C D t = b) ∨ (a = 99 ∧ b = 99 ∧ qcl A B C D t = 9) := by
  rcases ha with ⟨a1, a2⟩ | ⟨a1, a2⟩
  · rcases hb with ⟨b1, b2⟩ | ⟨b1, b2⟩
    · by_cases e : C + D < A + B
      · exact Or.inr (Or.inl ⟨by omega, by omega, by omega, (qcl_v (e := A + B) (Or.inl ⟨a1.1, a1.2, rfl⟩) (Or.inl ⟨b1.1, b1.2, e, b2⟩)).symm⟩)
      · exact Or.inl ⟨by omega, by omega, by omega, (qcl_v (e := A + B) (Or.inl ⟨a1.1, a1.2, rfl⟩) (Or.inr ⟨fun z => e z.2.2, a2⟩)).symm⟩
    · exact Or.inl ⟨by omega, by omega, by omega, (qcl_v (e := A + B) (Or.inl ⟨a1.1, a1.2, rfl⟩) (Or.inr ⟨fun z => b1 ⟨z.1, z.2.1⟩, a2⟩)).symm⟩
  · rcases hb with ⟨b1, b2⟩ | ⟨b1, b2⟩
    · exact Or.inr (Or.inl ⟨by omega, by omega, by omega, (qcl_v (e := 9) (Or.inr ⟨a1, rfl⟩) (Or.inl ⟨b1.1, b1.2, by omega, b2⟩)).symm⟩)
    · exact Or.inr (Or.inr ⟨a2, b2, (qcl_v (e := 9) (Or.inr ⟨a1, rfl⟩) (Or.inr ⟨fun z => b1 ⟨z.1, z.2.1⟩, rfl⟩)).symm⟩)
/-! near: the reference's people of feuds are people -/
def qZf (σ α : Nat → Nat → Int) : Prop := ∀ f : Nat, (f : Int) < σ 86 16 → (0 ≤ α 97 f ∧ α 97 f < σ 86 6) ∧ (0 ≤ α 98 f ∧ α 98 f < σ 86 6) ∧ (0 ≤ α 100 f ∧ α 100 f ≤ 3)
theorem qZf_fr {S : List (Nat × Nat)} {R : List Nat} {σ α σ' α' : Nat → Nat → Int} (hG : qFr S R σ α σ' α') (hs : [(86, 16), (86, 6)].all (fun x => !S.contains x) = true) (hr : [97, 98, 100].all (fun x => !R.contains x) = true) (h : qZf σ α) : qZf σ' α' := by
  have es : ∀ a k, (a, k) ∈ [(86, 16), (86, 6)] → σ' a k = σ a k := fun a k hm => hG.1 a k (fun hn => by
    have h1 := List.all_eq_true.mp hs (a, k) hm
    rw [List.contains_iff_mem.mpr hn] at h1
    exact absurd h1 (by decide))
  have er : ∀ a, a ∈ [97, 98, 100] → α' a = α a := fun a hm => hG.2 a (fun hn => by
    have h1 := List.all_eq_true.mp hr a hm
    rw [List.contains_iff_mem.mpr hn] at h1
    exact absurd h1 (by decide))
  unfold qZf
  rw [es 86 16 (by decide), es 86 6 (by decide), er 97 (by decide), er 98 (by decide), er 100 (by decide)]
  exact h

set_option maxHeartbeats 4000000 in
set_option maxRecDepth 20000 in
/-- OneRoof$Feuds.isAlight -/
theorem sf_67_27x {L : Nat} {xs : Nat → Int} {vb : Bool} {d : Nat} {σ α : Nat → Nat → Int} {κ : Nat → Option Nat} {ρ : Nat} {x1 : Int} {x2 : Int} (hI : qI σ α κ ρ) (r1 : 0 ≤ x1 ∧ x1 ≤ 39) (r2 : (-2147483648) ≤ x2 ∧ x2 ≤ 2147483647) : qm_T (qe L xs vb) (d + 1) 67 [.ref 27, .int (qz x1), .int (qz x2)] (qw σ α κ ρ) (fun r w' => w' = qw σ α κ ρ ∧ ∃ v : Int, r = some (.int (qz v)) ∧ (0 ≤ v ∧ v ≤ 1) ∧ v = qop (α 30 (x1 : Int).toNat) (α 33 (x1 : Int).toNat) (qbit (σ 27 6) x1) x2) := by
  refine qr_start (d := d + 0) qv_e67 (Nat.le_of_ble_eq_true rfl) ?_
  show qr_W (qe L xs vb) (d + 0) qx_e67 _ (0, [(0, .ref 27), (1, .int (qz x1)), (2, .int (qz x2))], [], _, 0, 0)
  have hz27_6 : (-9223372036854775808) ≤ σ 27 6 ∧ σ 27 6 ≤ 9223372036854775807 := hI.1 27 6
  refine qr_aload_n 1 rfl rfl rfl ?_
  refine qr_get 4 rfl rfl rfl (by decide) rfl ?_
  refine qr_iload_n 5 rfl rfl rfl ?_
  refine qr_iaload 6 rfl rfl (by omega) (by decide) rfl ?_
  refine qr_topI (fun v1 hv1 => ?_)
  have hs2 : (-2147483648) ≤ v1 ∧ v1 ≤ 2147483647 := by rw [hv1]; exact hI.2.1 30 _ (show _ < 40 by omega)
  refine qr_iload_n 7 rfl rfl rfl ?_
  refine qr_icmp_gt 49 10 rfl rfl rfl (by omega) (by omega) (fun h3 => ?_) (fun h3 => ?_)
  · skip
    refine qr_iconst 50 rfl rfl ?_
    refine qr_retZ rfl rfl (by omega) (by decide) (by decide) ?_
    exact ⟨rfl, 0, rfl, by omega, (by have hq0 := qop_c (α 30 (x1 : Int).toNat) (α 33 (x1 : Int).toNat) (qbit (σ 27 6) x1) x2; omega)⟩
  · skip
    refine qr_aload_n 11 rfl rfl rfl ?_
    refine qr_get 14 rfl rfl rfl (by decide) rfl ?_
    refine qr_iload_n 15 rfl rfl rfl ?_
    refine qr_iaload 16 rfl rfl (by omega) (by decide) rfl ?_
    refine qr_topI (fun v4 hv4 => ?_)
    have hs5 : (-2147483648) ≤ v4 ∧ v4 ≤ 2147483647 := by rw [hv4]; exact hI.2.1 33 _ (show _ < 40 by omega)
    refine qr_sipush 19 rfl (by decide) rfl ?_
    refine qr_icmp_eq 32 22 rfl rfl rfl (by omega) (by omega) (fun h6 => ?_) (fun h6 => ?_)
    · skip
      refine qr_aload_n 33 rfl rfl rfl ?_
      refine qr_get 36 rfl rfl rfl (by decide) rfl ?_
      refine qr_iload_n 37 rfl rfl rfl ?_
      refine qr_lushr 38 rfl rfl ?_
      refine qy_canlE (fun v7 hv7 hev7 => ?_)
      refine qr_lconst 39 rfl rfl ?_
      refine qy_vl 1 rfl ?_
      refine qr_land 40 rfl rfl ?_
      refine qy_canlE (fun v8 hv8 hev8 => ?_)
      refine qr_lconst 41 rfl rfl ?_
      refine qy_vl 0 rfl ?_
      refine qr_lc_ne 49 45 rfl rfl rfl rfl (by omega) (by omega) (fun h9 => ?_) (fun h9 => ?_)
      · skip
        refine qr_iconst 50 rfl rfl ?_
        refine qr_retZ rfl rfl (by omega) (by decide) (by decide) ?_
        exact ⟨rfl, 0, rfl, by omega, (by have hq0 := qbit_in (t := (σ 27 6)) (i := x1) (by omega) (by omega) hev7 hev8; have hq1 := qop_c (α 30 (x1 : Int).toNat) (α 33 (x1 : Int).toNat) (qbit (σ 27 6) x1) x2; omega)⟩
      · skip
        refine qr_iconst 46 rfl rfl ?_
        refine qr_goto 50 rfl rfl ?_
        refine qr_retZ rfl rfl (by omega) (by decide) (by decide) ?_
        exact ⟨rfl, 1, rfl, by omega, (by have hq0 := qbit_in (t := (σ 27 6)) (i := x1) (by omega) (by omega) hev7 hev8; have hq1 := qop_c (α 30 (x1 : Int).toNat) (α 33 (x1 : Int).toNat) (qbit (σ 27 6) x1) x2; omega)⟩
    · skip
      refine qr_iload_n 23 rfl rfl rfl ?_
      refine qr_aload_n 24 rfl rfl rfl ?_
      refine qr_get 27 rfl rfl rfl (by decide) rfl ?_
      refine qr_iload_n 28 rfl rfl rfl ?_
      refine qr_iaload 29 rfl rfl (by omega) (by decide) rfl ?_
      refine qr_topI (fun v10 hv10 => ?_)
      have hs11 : (-2147483648) ≤ v10 ∧ v10 ≤ 2147483647 := by rw [hv10]; exact hI.2.1 33 _ (show _ < 40 by omega)
      refine qr_icmp_ge 49 32 rfl rfl rfl (by omega) (by omega) (fun h12 => ?_) (fun h12 => ?_)
      · skip
        refine qr_iconst 50 rfl rfl ?_
        refine qr_retZ rfl rfl (by omega) (by decide) (by decide) ?_
        exact ⟨rfl, 0, rfl, by omega, (by have hq0 := qop_c (α 30 (x1 : Int).toNat) (α 33 (x1 : Int).toNat) (qbit (σ 27 6) x1) x2; omega)⟩
      · skip
        refine qr_aload_n 33 rfl rfl rfl ?_
        refine qr_get 36 rfl rfl rfl (by decide) rfl ?_
        refine qr_iload_n 37 rfl rfl rfl ?_
        refine qr_lushr 38 rfl rfl ?_
        refine qy_canlE (fun v13 hv13 hev13 => ?_)
        refine qr_lconst 39 rfl rfl ?_
        refine qy_vl 1 rfl ?_
        refine qr_land 40 rfl rfl ?_
        refine qy_canlE (fun v14 hv14 hev14 => ?_)
        refine qr_lconst 41 rfl rfl ?_
        refine qy_vl 0 rfl ?_
        refine qr_lc_ne 49 45 rfl rfl rfl rfl (by omega) (by omega) (fun h15 => ?_) (fun h15 => ?_)
        · skip
          refine qr_iconst 50 rfl rfl ?_
          refine qr_retZ rfl rfl (by omega) (by decide) (by decide) ?_
          exact ⟨rfl, 0, rfl, by omega, (by have hq0 := qbit_in (t := (σ 27 6)) (i := x1) (by omega) (by omega) hev13 hev14; have hq1 := qop_c (α 30 (x1 : Int).toNat) (α 33 (x1 : Int).toNat) (qbit (σ 27 6) x1) x2; omega)⟩
        · skip
          refine qr_iconst 46 rfl rfl ?_
          refine qr_goto 50 rfl rfl ?_
          refine qr_retZ rfl rfl (by omega) (by decide) (by decide) ?_
          exact ⟨rfl, 1, rfl, by omega, (by have hq0 := qbit_in (t := (σ 27 6)) (i := x1) (by omega) (by omega) hev13 hev14; have hq1 := qop_c (α 30 (x1 : Int).toNat) (α 33 (x1 : Int).toNat) (qbit (σ 27 6) x1) x2; omega)⟩

set_option maxHeartbeats 4000000 in
set_option maxRecDepth 20000 in
/-- OneRoof$Feuds.closeness -/
theorem sf_68_27_23x {L : Nat} {xs : Nat → Int} {vb : Bool} {d : Nat} {σ α : Nat → Nat → Int} {κ : Nat → Option Nat} {ρ : Nat} {x1 : Int} {x2 : Int} {x3 : Int} (hI : qI σ α κ ρ) (r1 : 0 ≤ x1 ∧ x1 ≤ 39) (r2 : 0 ≤ x2 ∧ x2 ≤ 31) (r3 : 0 ≤ x3 ∧ x3 ≤ 31) : qm_T (qe L xs vb) (d + 1) 68 [.ref 27, .int (qz x1), .int (qz x2), .int (qz x3), .ref 23] (qw σ α κ ρ) (fun r w' => w' = qw σ α κ ρ ∧ ∃ v : Int, r = some (.int (qz v)) ∧ (0 ≤ v ∧ v ≤ 9) ∧ v = qcl (qTb (α 24) x2 (α 28 (x1 : Int).toNat)) (qTb (α 24) x3 (α 29 (x1 : Int).toNat)) (qTb (α 24) x3 (α 28 (x1 : Int).toNat)) (qTb (α 24) x2 (α 29 (x1 : Int).toNat)) (α 31 (x1 : Int).toNat)) := by
  refine qr_start (d := d + 0) qv_e68 (Nat.le_of_ble_eq_true rfl) ?_
  show qr_W (qe L xs vb) (d + 0) qx_e68 _ (0, [(0, .ref 27), (1, .int (qz x1)), (2, .int (qz x2)), (3, .int (qz x3)), (4, .ref 23)], [], _, 0, 0)
  refine qr_aload 2 rfl rfl rfl ?_
  refine qr_get 5 rfl rfl rfl (by decide) rfl ?_
  refine qr_astore _ 7 rfl (by decide) rfl rfl ?_
  refine qr_aload_n 8 rfl rfl rfl ?_
  refine qr_get 11 rfl rfl rfl (by decide) rfl ?_
  refine qr_iload_n 12 rfl rfl rfl ?_
  refine qr_iaload 13 rfl rfl (by omega) (by decide) rfl ?_
  refine qr_topI (fun v1 hv1 => ?_)
  have hs2 : 0 ≤ v1 ∧ v1 ≤ 3 := by rw [hv1]; exact hI.2.1 31 _ (show _ < 40 by omega)
  refine qr_istore _ 15 rfl (by decide) rfl rfl ?_
  refine qr_bipush 17 rfl (by decide) rfl ?_
  refine qr_istore _ 19 rfl (by decide) rfl rfl ?_
  refine qr_aload 21 rfl rfl rfl ?_
  refine qr_iload_n 22 rfl rfl rfl ?_
  refine qr_bipush 24 rfl (by decide) rfl ?_
  refine qr_imul 25 rfl rfl ?_
  refine qr_aload_n 26 rfl rfl rfl ?_
  refine qr_get 29 rfl rfl rfl (by decide) rfl ?_
  refine qr_iload_n 30 rfl rfl rfl ?_
  refine qr_iaload 31 rfl rfl (by omega) (by decide) rfl ?_
  refine qr_topI (fun v3 hv3 => ?_)
  have hs4 : 0 ≤ v3 ∧ v3 ≤ 31 := by rw [hv3]; exact hI.2.1 28 _ (show _ < 40 by omega)
  refine qr_iadd 32 rfl rfl ?_
  refine qr_iaload 33 rfl rfl (by omega) (by decide) rfl ?_
  refine qr_topI (fun v5 hv5 => ?_)
  have hs6 : 0 ≤ v5 ∧ v5 ≤ 99 := by rw [hv5]; exact hI.2.1 24 _ (show _ < 1024 by omega)
  refine qr_istore _ 35 rfl (by decide) rfl rfl ?_
  refine qr_aload 37 rfl rfl rfl ?_
  refine qr_iload_n 38 rfl rfl rfl ?_
  refine qr_bipush 40 rfl (by decide) rfl ?_
  refine qr_imul 41 rfl rfl ?_
  refine qr_aload_n 42 rfl rfl rfl ?_
  refine qr_get 45 rfl rfl rfl (by decide) rfl ?_
  refine qr_iload_n 46 rfl rfl rfl ?_
  refine qr_iaload 47 rfl rfl (by omega) (by decide) rfl ?_
  refine qr_topI (fun v7 hv7 => ?_)
  have hs8 : 0 ≤ v7 ∧ v7 ≤ 31 := by rw [hv7]; exact hI.2.1 29 _ (show _ < 40 by omega)
  refine qr_iadd 48 rfl rfl ?_
  refine qr_iaload 49 rfl rfl (by omega) (by decide) rfl ?_
  refine qr_topI (fun v9 hv9 => ?_)
  have hs10 : 0 ≤ v9 ∧ v9 ≤ 99 := by rw [hv9]; exact hI.2.1 24 _ (show _ < 1024 by omega)
  refine qr_istore _ 51 rfl (by decide) rfl rfl ?_
  refine qr_iload 53 rfl rfl rfl ?_
  refine qr_iload 55 rfl rfl rfl ?_
  refine qr_icmp_gt 72 58 rfl rfl rfl (by omega) (by omega) (fun h11 => ?_) (fun h11 => ?_)
  · skip
    refine qr_aload 74 rfl rfl rfl ?_
    refine qr_iload_n 75 rfl rfl rfl ?_
    refine qr_bipush 77 rfl (by decide) rfl ?_
    refine qr_imul 78 rfl rfl ?_
    refine qr_aload_n 79 rfl rfl rfl ?_
    refine qr_get 82 rfl rfl rfl (by decide) rfl ?_
    refine qr_iload_n 83 rfl rfl rfl ?_
    refine qr_iaload 84 rfl rfl (by omega) (by decide) rfl ?_
    refine qr_topI (fun v12 hv12 => ?_)
    have hs13 : 0 ≤ v12 ∧ v12 ≤ 31 := by rw [hv12]; exact hI.2.1 28 _ (show _ < 40 by omega)
    refine qr_iadd 85 rfl rfl ?_
    refine qr_iaload 86 rfl rfl (by omega) (by decide) rfl ?_
    refine qr_topI (fun v14 hv14 => ?_)
    have hs15 : 0 ≤ v14 ∧ v14 ≤ 99 := by rw [hv14]; exact hI.2.1 24 _ (show _ < 1024 by omega)
    refine qr_istore _ 88 rfl (by decide) rfl rfl ?_
    refine qr_aload 90 rfl rfl rfl ?_
    refine qr_iload_n 91 rfl rfl rfl ?_
    refine qr_bipush 93 rfl (by decide) rfl ?_
    refine qr_imul 94 rfl rfl ?_
    as_aux_lemma =>
      refine qr_aload_n 95 rfl rfl rfl ?_
      refine qr_get 98 rfl rfl rfl (by decide) rfl ?_
      refine qr_iload_n 99 rfl rfl rfl ?_
      refine qr_iaload 100 rfl rfl (by omega) (by decide) rfl ?_
      refine qr_topI (fun v16 hv16 => ?_)
      have hs17 : 0 ≤ v16 ∧ v16 ≤ 31 := by rw [hv16]; exact hI.2.1 29 _ (show _ < 40 by omega)
      refine qr_iadd 101 rfl rfl ?_
      refine qr_iaload 102 rfl rfl (by omega) (by decide) rfl ?_
      refine qr_topI (fun v18 hv18 => ?_)
      have hs19 : 0 ≤ v18 ∧ v18 ≤ 99 := by rw [hv18]; exact hI.2.1 24 _ (show _ < 1024 by omega)
      refine qr_istore _ 104 rfl (by decide) rfl rfl ?_
      refine qr_iload 106 rfl rfl rfl ?_
      refine qr_iload 108 rfl rfl rfl ?_
      refine qr_icmp_gt 136 111 rfl rfl rfl (by omega) (by omega) (fun h20 => ?_) (fun h20 => ?_)
      · skip
        refine qr_iload 138 rfl rfl rfl ?_
        refine qr_retI rfl rfl (by decide) (by decide) ?_
        exact ⟨rfl, 9, rfl, by omega, (by have hq0 := (show v5 = qTb (α 24) x2 (α 28 (x1 : Int).toNat) by rw [hv5, hv3]; rfl); have hq1 := (show v9 = qTb (α 24) x3 (α 29 (x1 : Int).toNat) by rw [hv9, hv7]; rfl); have hq2 := (show v14 = qTb (α 24) x3 (α 28 (x1 : Int).toNat) by rw [hv14, hv12]; rfl); have hq3 := (show v18 = qTb (α 24) x2 (α 29 (x1 : Int).toNat) by rw [hv18, hv16]; rfl); rw [← hq0, ← hq1, ← hq2, ← hq3]; exact qcl_v (e := 9) (by omega) (by omega))⟩
      · skip
        refine qr_iload 113 rfl rfl rfl ?_
        refine qr_iload 115 rfl rfl rfl ?_
        refine qr_icmp_gt 136 118 rfl rfl rfl (by omega) (by omega) (fun h21 => ?_) (fun h21 => ?_)
        · skip
          refine qr_iload 138 rfl rfl rfl ?_
          refine qr_retI rfl rfl (by decide) (by decide) ?_
          exact ⟨rfl, 9, rfl, by omega, (by have hq0 := (show v5 = qTb (α 24) x2 (α 28 (x1 : Int).toNat) by rw [hv5, hv3]; rfl); have hq1 := (show v9 = qTb (α 24) x3 (α 29 (x1 : Int).toNat) by rw [hv9, hv7]; rfl); have hq2 := (show v14 = qTb (α 24) x3 (α 28 (x1 : Int).toNat) by rw [hv14, hv12]; rfl); have hq3 := (show v18 = qTb (α 24) x2 (α 29 (x1 : Int).toNat) by rw [hv18, hv16]; rfl); rw [← hq0, ← hq1, ← hq2, ← hq3]; exact qcl_v (e := 9) (by omega) (by omega))⟩
        · skip
          refine qr_iload 120 rfl rfl rfl ?_
          refine qr_iload 122 rfl rfl rfl ?_
          refine qr_iadd 123 rfl rfl ?_
          refine qr_iload 125 rfl rfl rfl ?_
          refine qr_icmp_ge 136 128 rfl rfl rfl (by omega) (by omega) (fun h => False.elim (by omega)) (fun h22 => ?_)
          refine qr_iload 130 rfl rfl rfl ?_
          refine qr_iload 132 rfl rfl rfl ?_
          refine qr_iadd 133 rfl rfl ?_
          refine qr_goto 138 rfl rfl ?_
          refine qr_retI rfl rfl (by decide) (by decide) ?_
          exact ⟨rfl, (v14 + v18), rfl, by omega, (by have hq0 := (show v5 = qTb (α 24) x2 (α 28 (x1 : Int).toNat) by rw [hv5, hv3]; rfl); have hq1 := (show v9 = qTb (α 24) x3 (α 29 (x1 : Int).toNat) by rw [hv9, hv7]; rfl); have hq2 := (show v14 = qTb (α 24) x3 (α 28 (x1 : Int).toNat) by rw [hv14, hv12]; rfl); have hq3 := (show v18 = qTb (α 24) x2 (α 29 (x1 : Int).toNat) by rw [hv18, hv16]; rfl); rw [← hq0, ← hq1, ← hq2, ← hq3]; exact qcl_v (e := 9) (by omega) (by omega))⟩
  · skip
    refine qr_iload 60 rfl rfl rfl ?_
    refine qr_iload 62 rfl rfl rfl ?_
    refine qr_icmp_gt 72 65 rfl rfl rfl (by omega) (by omega) (fun h23 => ?_) (fun h23 => ?_)
    · skip
      refine qr_aload 74 rfl rfl rfl ?_
      refine qr_iload_n 75 rfl rfl rfl ?_
      refine qr_bipush 77 rfl (by decide) rfl ?_
      refine qr_imul 78 rfl rfl ?_
      refine qr_aload_n 79 rfl rfl rfl ?_
      refine qr_get 82 rfl rfl rfl (by decide) rfl ?_
      refine qr_iload_n 83 rfl rfl rfl ?_
      refine qr_iaload 84 rfl rfl (by omega) (by decide) rfl ?_
      refine qr_topI (fun v24 hv24 => ?_)
      have hs25 : 0 ≤ v24 ∧ v24 ≤ 31 := by rw [hv24]; exact hI.2.1 28 _ (show _ < 40 by omega)
      refine qr_iadd 85 rfl rfl ?_
      refine qr_iaload 86 rfl rfl (by omega) (by decide) rfl ?_
      refine qr_topI (fun v26 hv26 => ?_)
      have hs27 : 0 ≤ v26 ∧ v26 ≤ 99 := by rw [hv26]; exact hI.2.1 24 _ (show _ < 1024 by omega)
      refine qr_istore _ 88 rfl (by decide) rfl rfl ?_
      refine qr_aload 90 rfl rfl rfl ?_
      as_aux_lemma =>
        refine qr_iload_n 91 rfl rfl rfl ?_
        refine qr_bipush 93 rfl (by decide) rfl ?_
        refine qr_imul 94 rfl rfl ?_
        refine qr_aload_n 95 rfl rfl rfl ?_
        refine qr_get 98 rfl rfl rfl (by decide) rfl ?_
        refine qr_iload_n 99 rfl rfl rfl ?_
        refine qr_iaload 100 rfl rfl (by omega) (by decide) rfl ?_
        refine qr_topI (fun v28 hv28 => ?_)
        have hs29 : 0 ≤ v28 ∧ v28 ≤ 31 := by rw [hv28]; exact hI.2.1 29 _ (show _ < 40 by omega)
        refine qr_iadd 101 rfl rfl ?_
        refine qr_iaload 102 rfl rfl (by omega) (by decide) rfl ?_
        refine qr_topI (fun v30 hv30 => ?_)
        have hs31 : 0 ≤ v30 ∧ v30 ≤ 99 := by rw [hv30]; exact hI.2.1 24 _ (show _ < 1024 by omega)
        refine qr_istore _ 104 rfl (by decide) rfl rfl ?_
        refine qr_iload 106 rfl rfl rfl ?_
        refine qr_iload 108 rfl rfl rfl ?_
        refine qr_icmp_gt 136 111 rfl rfl rfl (by omega) (by omega) (fun h32 => ?_) (fun h32 => ?_)
        · skip
          refine qr_iload 138 rfl rfl rfl ?_
          refine qr_retI rfl rfl (by decide) (by decide) ?_
          exact ⟨rfl, 9, rfl, by omega, (by have hq0 := (show v5 = qTb (α 24) x2 (α 28 (x1 : Int).toNat) by rw [hv5, hv3]; rfl); have hq1 := (show v9 = qTb (α 24) x3 (α 29 (x1 : Int).toNat) by rw [hv9, hv7]; rfl); have hq2 := (show v26 = qTb (α 24) x3 (α 28 (x1 : Int).toNat) by rw [hv26, hv24]; rfl); have hq3 := (show v30 = qTb (α 24) x2 (α 29 (x1 : Int).toNat) by rw [hv30, hv28]; rfl); rw [← hq0, ← hq1, ← hq2, ← hq3]; exact qcl_v (e := 9) (by omega) (by omega))⟩
        · skip
          refine qr_iload 113 rfl rfl rfl ?_
          refine qr_iload 115 rfl rfl rfl ?_
          refine qr_icmp_gt 136 118 rfl rfl rfl (by omega) (by omega) (fun h33 => ?_) (fun h33 => ?_)
          · skip
            refine qr_iload 138 rfl rfl rfl ?_
            refine qr_retI rfl rfl (by decide) (by decide) ?_
            exact ⟨rfl, 9, rfl, by omega, (by have hq0 := (show v5 = qTb (α 24) x2 (α 28 (x1 : Int).toNat) by rw [hv5, hv3]; rfl); have hq1 := (show v9 = qTb (α 24) x3 (α 29 (x1 : Int).toNat) by rw [hv9, hv7]; rfl); have hq2 := (show v26 = qTb (α 24) x3 (α 28 (x1 : Int).toNat) by rw [hv26, hv24]; rfl); have hq3 := (show v30 = qTb (α 24) x2 (α 29 (x1 : Int).toNat) by rw [hv30, hv28]; rfl); rw [← hq0, ← hq1, ← hq2, ← hq3]; exact qcl_v (e := 9) (by omega) (by omega))⟩
          · skip
            refine qr_iload 120 rfl rfl rfl ?_
            refine qr_iload 122 rfl rfl rfl ?_
            refine qr_iadd 123 rfl rfl ?_
            refine qr_iload 125 rfl rfl rfl ?_
            refine qr_icmp_ge 136 128 rfl rfl rfl (by omega) (by omega) (fun h => False.elim (by omega)) (fun h34 => ?_)
            refine qr_iload 130 rfl rfl rfl ?_
            refine qr_iload 132 rfl rfl rfl ?_
            refine qr_iadd 133 rfl rfl ?_
            refine qr_goto 138 rfl rfl ?_
            refine qr_retI rfl rfl (by decide) (by decide) ?_
            exact ⟨rfl, (v26 + v30), rfl, by omega, (by have hq0 := (show v5 = qTb (α 24) x2 (α 28 (x1 : Int).toNat) by rw [hv5, hv3]; rfl); have hq1 := (show v9 = qTb (α 24) x3 (α 29 (x1 : Int).toNat) by rw [hv9, hv7]; rfl); have hq2 := (show v26 = qTb (α 24) x3 (α 28 (x1 : Int).toNat) by rw [hv26, hv24]; rfl); have hq3 := (show v30 = qTb (α 24) x2 (α 29 (x1 : Int).toNat) by rw [hv30, hv28]; rfl); rw [← hq0, ← hq1, ← hq2, ← hq3]; exact qcl_v (e := 9) (by omega) (by omega))⟩
    · skip
      refine qr_iload 67 rfl rfl rfl ?_
      refine qr_iload 69 rfl rfl rfl ?_
      refine qr_iadd 70 rfl rfl ?_
      refine qr_istore _ 72 rfl (by decide) rfl rfl ?_
      refine qr_aload 74 rfl rfl rfl ?_
      refine qr_iload_n 75 rfl rfl rfl ?_
      refine qr_bipush 77 rfl (by decide) rfl ?_
      refine qr_imul 78 rfl rfl ?_
      refine qr_aload_n 79 rfl rfl rfl ?_
      refine qr_get 82 rfl rfl rfl (by decide) rfl ?_
      refine qr_iload_n 83 rfl rfl rfl ?_
      refine qr_iaload 84 rfl rfl (by omega) (by decide) rfl ?_
      refine qr_topI (fun v35 hv35 => ?_)
      have hs36 : 0 ≤ v35 ∧ v35 ≤ 31 := by rw [hv35]; exact hI.2.1 28 _ (show _ < 40 by omega)
      as_aux_lemma =>
        refine qr_iadd 85 rfl rfl ?_
        refine qr_iaload 86 rfl rfl (by omega) (by decide) rfl ?_
        refine qr_topI (fun v37 hv37 => ?_)
        have hs38 : 0 ≤ v37 ∧ v37 ≤ 99 := by rw [hv37]; exact hI.2.1 24 _ (show _ < 1024 by omega)
        refine qr_istore _ 88 rfl (by decide) rfl rfl ?_
        refine qr_aload 90 rfl rfl rfl ?_
        refine qr_iload_n 91 rfl rfl rfl ?_
        refine qr_bipush 93 rfl (by decide) rfl ?_
        refine qr_imul 94 rfl rfl ?_
        refine qr_aload_n 95 rfl rfl rfl ?_
        refine qr_get 98 rfl rfl rfl (by decide) rfl ?_
        refine qr_iload_n 99 rfl rfl rfl ?_
        refine qr_iaload 100 rfl rfl (by omega) (by decide) rfl ?_
        refine qr_topI (fun v39 hv39 => ?_)
        have hs40 : 0 ≤ v39 ∧ v39 ≤ 31 := by rw [hv39]; exact hI.2.1 29 _ (show _ < 40 by omega)
        refine qr_iadd 101 rfl rfl ?_
        refine qr_iaload 102 rfl rfl (by omega) (by decide) rfl ?_
        refine qr_topI (fun v41 hv41 => ?_)
        have hs42 : 0 ≤ v41 ∧ v41 ≤ 99 := by rw [hv41]; exact hI.2.1 24 _ (show _ < 1024 by omega)
        refine qr_istore _ 104 rfl (by decide) rfl rfl ?_
        refine qr_iload 106 rfl rfl rfl ?_
        refine qr_iload 108 rfl rfl rfl ?_
        refine qr_icmp_gt 136 111 rfl rfl rfl (by omega) (by omega) (fun h43 => ?_) (fun h43 => ?_)
        · skip
          refine qr_iload 138 rfl rfl rfl ?_
          refine qr_retI rfl rfl (by decide) (by decide) ?_
          exact ⟨rfl, (v5 + v9), rfl, by omega, (by have hq0 := (show v5 = qTb (α 24) x2 (α 28 (x1 : Int).toNat) by rw [hv5, hv3]; rfl); have hq1 := (show v9 = qTb (α 24) x3 (α 29 (x1 : Int).toNat) by rw [hv9, hv7]; rfl); have hq2 := (show v37 = qTb (α 24) x3 (α 28 (x1 : Int).toNat) by rw [hv37, hv35]; rfl); have hq3 := (show v41 = qTb (α 24) x2 (α 29 (x1 : Int).toNat) by rw [hv41, hv39]; rfl); rw [← hq0, ← hq1, ← hq2, ← hq3]; exact qcl_v (e := (v5 + v9)) (by omega) (by omega))⟩
        · skip
          refine qr_iload 113 rfl rfl rfl ?_
          refine qr_iload 115 rfl rfl rfl ?_
          refine qr_icmp_gt 136 118 rfl rfl rfl (by omega) (by omega) (fun h44 => ?_) (fun h44 => ?_)
          · skip
            refine qr_iload 138 rfl rfl rfl ?_
            refine qr_retI rfl rfl (by decide) (by decide) ?_
            exact ⟨rfl, (v5 + v9), rfl, by omega, (by have hq0 := (show v5 = qTb (α 24) x2 (α 28 (x1 : Int).toNat) by rw [hv5, hv3]; rfl); have hq1 := (show v9 = qTb (α 24) x3 (α 29 (x1 : Int).toNat) by rw [hv9, hv7]; rfl); have hq2 := (show v37 = qTb (α 24) x3 (α 28 (x1 : Int).toNat) by rw [hv37, hv35]; rfl); have hq3 := (show v41 = qTb (α 24) x2 (α 29 (x1 : Int).toNat) by rw [hv41, hv39]; rfl); rw [← hq0, ← hq1, ← hq2, ← hq3]; exact qcl_v (e := (v5 + v9)) (by omega) (by omega))⟩
          · skip
            refine qr_iload 120 rfl rfl rfl ?_
            refine qr_iload 122 rfl rfl rfl ?_
            refine qr_iadd 123 rfl rfl ?_
            refine qr_iload 125 rfl rfl rfl ?_
            refine qr_icmp_ge 136 128 rfl rfl rfl (by omega) (by omega) (fun h45 => ?_) (fun h45 => ?_)
            · skip
              refine qr_iload 138 rfl rfl rfl ?_
              refine qr_retI rfl rfl (by decide) (by decide) ?_
              exact ⟨rfl, (v5 + v9), rfl, by omega, (by have hq0 := (show v5 = qTb (α 24) x2 (α 28 (x1 : Int).toNat) by rw [hv5, hv3]; rfl); have hq1 := (show v9 = qTb (α 24) x3 (α 29 (x1 : Int).toNat) by rw [hv9, hv7]; rfl); have hq2 := (show v37 = qTb (α 24) x3 (α 28 (x1 : Int).toNat) by rw [hv37, hv35]; rfl); have hq3 := (show v41 = qTb (α 24) x2 (α 29 (x1 : Int).toNat) by rw [hv41, hv39]; rfl); rw [← hq0, ← hq1, ← hq2, ← hq3]; exact qcl_v (e := (v5 + v9)) (by omega) (by omega))⟩
            · skip
              refine qr_iload 130 rfl rfl rfl ?_
              refine qr_iload 132 rfl rfl rfl ?_
              refine qr_iadd 133 rfl rfl ?_
              refine qr_goto 138 rfl rfl ?_
              refine qr_retI rfl rfl (by decide) (by decide) ?_
              exact ⟨rfl, (v37 + v41), rfl, by omega, (by have hq0 := (show v5 = qTb (α 24) x2 (α 28 (x1 : Int).toNat) by rw [hv5, hv3]; rfl); have hq1 := (show v9 = qTb (α 24) x3 (α 29 (x1 : Int).toNat) by rw [hv9, hv7]; rfl); have hq2 := (show v37 = qTb (α 24) x3 (α 28 (x1 : Int).toNat) by rw [hv37, hv35]; rfl); have hq3 := (show v41 = qTb (α 24) x2 (α 29 (x1 : Int).toNat) by rw [hv41, hv39]; rfl); rw [← hq0, ← hq1, ← hq2, ← hq3]; exact qcl_v (e := (v5 + v9)) (by omega) (by omega))⟩

set_option maxHeartbeats 4000000 in
set_option maxRecDepth 20000 in
/-- OneRoof$Feuds.nearest -/
theorem sf_66_27_23x {L : Nat} {xs : Nat → Int} {vb : Bool} {d : Nat} {σ α : Nat → Nat → Int} {κ : Nat → Option Nat} {ρ : Nat} {x1 : Int} {x2 : Int} {x3 : Int} (hI : qI σ α κ ρ) (r1 : 0 ≤ x1 ∧ x1 ≤ 31) (r2 : 0 ≤ x2 ∧ x2 ≤ 31) (r3 : (-2147483648) ≤ x3 ∧ x3 ≤ 2147483647) : qm_T (qe L xs vb) (d + 2) 66 [.ref 27, .int (qz x1), .int (qz x2), .int (qz x3), .ref 23] (qw σ α κ ρ) (fun r w' => w' = qw σ α κ ρ ∧ ∃ v : Int, r = some (.int (qz v)) ∧ (0 ≤ v ∧ v ≤ 576) ∧ v = qnF (qTb (α 24)) (α 28) (α 29) (α 31) (α 30) (α 33) (σ 27 6) (σ 27 7) x1 x2 x3) := by
  refine qr_start (d := d + 1) qv_e66 (Nat.le_of_ble_eq_true rfl) ?_
  show qr_W (qe L xs vb) (d + 1) qx_e66 _ (0, [(0, .ref 27), (1, .int (qz x1)), (2, .int (qz x2)), (3, .int (qz x3)), (4, .ref 23)], [], _, 0, 0)
  have hz27_6 : (-9223372036854775808) ≤ σ 27 6 ∧ σ 27 6 ≤ 9223372036854775807 := hI.1 27 6
  have hz27_7 : 0 ≤ σ 27 7 ∧ σ 27 7 ≤ 40 := hI.1 27 7
  refine qr_sipush 3 rfl (by decide) rfl ?_
  refine qr_istore _ 5 rfl (by decide) rfl rfl ?_
  refine qr_iconst 6 rfl rfl ?_
  refine qr_istore _ 8 rfl (by decide) rfl rfl ?_
  have hL223 : ∀ (n : Nat) (ls : qm_L) (u216 u218 : Int), 40 - u218 < (n : Int) → qm_get ls 0 = some (.ref 27) → qm_get ls 1 = some (.int (qz x1)) → qm_get ls 2 = some (.int (qz x2)) → qm_get ls 3 = some (.int (qz x3)) → qm_get ls 4 = some (.ref 23) → qm_get ls 5 = some (.int (qz u216)) → qm_get ls 6 = some (.int (qz u218)) → (0 ≤ u216 ∧ u216 ≤ 576) → (0 ≤ u218 ∧ u218 ≤ 40) → u216 = qnk (qoF (α 30) (α 33) (σ 27 6) x3) (qcF (qTb (α 24)) (α 28) (α 29) (α 31) x1 x2) (u218 : Int).toNat → u218 ≤ σ 27 7 → qr_W (qe L xs vb) (d + 1) qx_e66 (fun r w' => w' = qw σ α κ ρ ∧ ∃ v : Int, r = some (.int (qz v)) ∧ (0 ≤ v ∧ v ≤ 576) ∧ v = qnF (qTb (α 24)) (α 28) (α 29) (α 31) (α 30) (α 33) (σ 27 6) (σ 27 7) x1 x2 x3) (8, ls, [], qw σ α κ ρ, 0, 0) := by
    intro n
    induction n with
    | zero => intro ls u216 u218 hm g210 g211 g212 g213 g214 g215 g217 hf219 hf220 hx221 hx222; exact False.elim (by omega)
    | succ n ih224 =>
      intro ls u216 u218 hm g210 g211 g212 g213 g214 g215 g217 hf219 hf220 hx221 hx222
      refine qr_iload 10 rfl g217 rfl ?_
      refine qr_aload_n 11 rfl g210 rfl ?_
      refine qr_get 14 rfl rfl rfl (by decide) rfl ?_
      refine qr_icmp_ge 56 17 rfl rfl rfl (by omega) (by omega) (fun h225 => ?_) (fun h225 => ?_)
      · skip
        refine qr_iload 58 rfl g215 rfl ?_
        refine qr_retI rfl rfl (by decide) (by decide) ?_
        exact ⟨rfl, u216, rfl, by omega, (by unfold qnF; rw [show (σ 27 7) = u218 by omega]; exact hx221)⟩
      · skip
        refine qr_aload_n 18 rfl g210 rfl ?_
        refine qr_iload 20 rfl g217 rfl ?_
        refine qr_iload_n 21 rfl g213 rfl ?_
        refine qr_callN 24 rfl rfl rfl (sf_67_27x (d := d + 0) hI (by omega) (by omega)) ?_
        have hs228 : (-9223372036854775808) ≤ σ 27 6 ∧ σ 27 6 ≤ 9223372036854775807 := hI.1 27 6
        rintro _ _ ⟨rfl, v226, rfl, hv226, hp227⟩
        show qr_W (qe L xs vb) (d + 1) qx_e66 _ (24, _, [.int (qz v226)], qw σ α κ ρ, 0, 0)
        refine qr_if_eq 50 27 rfl rfl rfl (by omega) (fun h229 => ?_) (fun h229 => ?_)
        · skip
          refine qr_iinc _ 53 rfl g217 (by decide) rfl rfl ?_
          refine qr_goto 8 rfl rfl ?_
          exact ih224 _ u216 (u218 + 1) (by omega) (qm_gk g210 (by decide) (Or.inl (by decide))) (qm_gk g211 (by decide) (Or.inl (by decide))) (qm_gk g212 (by decide) (Or.inl (by decide))) (qm_gk g213 (by decide) (Or.inl (by decide))) (qm_gk g214 (by decide) (Or.inl (by decide))) (qm_gk g215 (by decide) (Or.inr rfl)) (qm_ge _ _ _) (by omega) (by omega) (by have hq0 := qnk_s (qoF (α 30) (α 33) (σ 27 6) x3) (qcF (qTb (α 24)) (α 28) (α 29) (α 31) x1 x2) (i := u218) (by omega); have hq1 := qoF_a (α 30) (α 33) (σ 27 6) x3 (i := u218) (by omega); have hq2 := (show (qcF (qTb (α 24)) (α 28) (α 29) (α 31) x1 x2) ((u218 : Int).toNat) = qcl _ _ _ _ _ from rfl); omega) (by omega)
        · skip
          refine qr_iload 29 rfl g215 rfl ?_
          refine qr_aload_n 30 rfl g210 rfl ?_
          refine qr_iload 32 rfl g217 rfl ?_
          refine qr_iload_n 33 rfl g211 rfl ?_
          refine qr_iload_n 34 rfl g212 rfl ?_
          refine qr_aload 36 rfl g214 rfl ?_
          refine qr_callN 39 rfl rfl rfl (sf_68_27_23x (d := d + 0) hI (by omega) (by omega) (by omega)) ?_
          rintro _ _ ⟨rfl, v230, rfl, hv230, hp231⟩
          show qr_W (qe L xs vb) (d + 1) qx_e66 _ (39, _, [.int (qz v230), .int (qz u216)], qw σ α κ ρ, 0, 0)
          refine qr_bipush 41 rfl (by decide) rfl ?_
          refine qr_imul 42 rfl rfl ?_
          refine qr_iload 44 rfl g217 rfl ?_
          refine qr_iadd 45 rfl rfl ?_
          refine qr_callN 48 rfl rfl rfl (sf_12 (d := d + 0) hI (by omega) (by omega)) ?_
          rintro _ _ ⟨rfl, v232, rfl, hv232, hp233⟩
          show qr_W (qe L xs vb) (d + 1) qx_e66 _ (48, _, [.int (qz v232)], qw σ α κ ρ, 0, 0)
          refine qr_istore _ 50 rfl (by decide) rfl rfl ?_
          refine qr_iinc _ 53 rfl (qm_gk g217 (by decide) (Or.inl (by decide))) (by decide) rfl rfl ?_
          refine qr_goto 8 rfl rfl ?_
          exact ih224 _ v232 (u218 + 1) (by omega) (qm_gk (qm_gk g210 (by decide) (Or.inl (by decide))) (by decide) (Or.inl (by decide))) (qm_gk (qm_gk g211 (by decide) (Or.inl (by decide))) (by decide) (Or.inl (by decide))) (qm_gk (qm_gk g212 (by decide) (Or.inl (by decide))) (by decide) (Or.inl (by decide))) (qm_gk (qm_gk g213 (by decide) (Or.inl (by decide))) (by decide) (Or.inl (by decide))) (qm_gk (qm_gk g214 (by decide) (Or.inr rfl)) (by decide) (Or.inl (by decide))) (qm_gk (qm_ge _ _ _) (by decide) (Or.inr rfl)) (qm_ge _ _ _) (by omega) (by omega) (by have hq0 := qnk_s (qoF (α 30) (α 33) (σ 27 6) x3) (qcF (qTb (α 24)) (α 28) (α 29) (α 31) x1 x2) (i := u218) (by omega); have hq1 := qoF_a (α 30) (α 33) (σ 27 6) x3 (i := u218) (by omega); have hq2 := (show (qcF (qTb (α 24)) (α 28) (α 29) (α 31) x1 x2) ((u218 : Int).toNat) = qcl _ _ _ _ _ from rfl); omega) (by omega)
  exact hL223 ((40 - 0 + 1 : Int)).toNat _ 576 0 (by omega) rfl rfl rfl rfl rfl rfl rfl (by omega) (by omega) rfl (by omega)

set_option maxHeartbeats 4000000 in
set_option maxRecDepth 20000 in
/-- OneRoofModel.isOpen -/
theorem sf_196_86x {L : Nat} {xs : Nat → Int} {vb : Bool} {d : Nat} {σ α : Nat → Nat → Int} {κ : Nat → Option Nat} {ρ : Nat} {x1 : Int} {x2 : Int} (hI : qI σ α κ ρ) (r1 : 0 ≤ x1 ∧ x1 ≤ 39) (r2 : (-2147483648) ≤ x2 ∧ x2 ≤ 2147483647) : qm_T (qe L xs vb) (d + 1) 196 [.ref 86, .int (qz x1), .int (qz x2)] (qw σ α κ ρ) (fun r w' => w' = qw σ α κ ρ ∧ ∃ v : Int, r = some (.int (qz v)) ∧ (0 ≤ v ∧ v ≤ 1) ∧ v = qop (α 99 (x1 : Int).toNat) (qsh (α 87) 32 (x1 : Int).toNat) (qbit (σ 86 22) x1) x2) := by
  refine qr_start (d := d + 0) qv_e196 (Nat.le_of_ble_eq_true rfl) ?_
  show qr_W (qe L xs vb) (d + 0) qx_e196 _ (0, [(0, .ref 86), (1, .int (qz x1)), (2, .int (qz x2))], [], _, 0, 0)
  have hz86_22 : (-9223372036854775808) ≤ σ 86 22 ∧ σ 86 22 ≤ 9223372036854775807 := hI.1 86 22
  refine qr_aload_n 1 rfl rfl rfl ?_
  refine qr_get 4 rfl rfl rfl (by decide) rfl ?_
  refine qr_iload_n 5 rfl rfl rfl ?_
  refine qr_iaload 6 rfl rfl (by omega) (by decide) rfl ?_
  refine qr_topI (fun v1 hv1 => ?_)
  have hs2 : (-2147483648) ≤ v1 ∧ v1 ≤ 2147483647 := by rw [hv1]; exact hI.2.1 99 _ (show _ < 40 by omega)
  refine qr_iload_n 7 rfl rfl rfl ?_
  refine qr_icmp_gt 55 10 rfl rfl rfl (by omega) (by omega) (fun h3 => ?_) (fun h3 => ?_)
  · skip
    refine qr_iconst 56 rfl rfl ?_
    refine qr_retZ rfl rfl (by omega) (by decide) (by decide) ?_
    exact ⟨rfl, 0, rfl, by omega, (by have hq0 := (show qsh (α 87) 32 (x1 : Int).toNat = α 87 (32 + x1 : Int).toNat by unfold qsh; congr 1; omega); have hq1 := qop_c (α 99 (x1 : Int).toNat) (qsh (α 87) 32 (x1 : Int).toNat) (qbit (σ 86 22) x1) x2; omega)⟩
  · skip
    refine qr_aload_n 11 rfl rfl rfl ?_
    refine qr_get 14 rfl rfl rfl (by decide) rfl ?_
    refine qr_bipush 16 rfl (by decide) rfl ?_
    refine qr_iload_n 17 rfl rfl rfl ?_
    refine qr_iadd 18 rfl rfl ?_
    refine qr_iaload 19 rfl rfl (by omega) (by decide) rfl ?_
    refine qr_topI (fun v4 hv4 => ?_)
    have hs5 : (-2147483648) ≤ v4 ∧ v4 ≤ 2147483647 := by rw [hv4]; exact hI.2.1 87 _ (show _ < 252 by omega)
    refine qr_sipush 22 rfl (by decide) rfl ?_
    refine qr_icmp_eq 38 25 rfl rfl rfl (by omega) (by omega) (fun h6 => ?_) (fun h6 => ?_)
    · skip
      refine qr_aload_n 39 rfl rfl rfl ?_
      refine qr_get 42 rfl rfl rfl (by decide) rfl ?_
      refine qr_iload_n 43 rfl rfl rfl ?_
      refine qr_lshr 44 rfl rfl ?_
      refine qy_canlE (fun v7 hv7 hev7 => ?_)
      refine qr_lconst 45 rfl rfl ?_
      refine qy_vl 1 rfl ?_
      refine qr_land 46 rfl rfl ?_
      refine qy_canlE (fun v8 hv8 hev8 => ?_)
      refine qr_lconst 47 rfl rfl ?_
      refine qy_vl 0 rfl ?_
      refine qr_lc_ne 55 51 rfl rfl rfl rfl (by omega) (by omega) (fun h9 => ?_) (fun h9 => ?_)
      · skip
        refine qr_iconst 56 rfl rfl ?_
        refine qr_retZ rfl rfl (by omega) (by decide) (by decide) ?_
        exact ⟨rfl, 0, rfl, by omega, (by have hq0 := qbit_inS (t := (σ 86 22)) (i := x1) (by omega) (by omega) hev7 hev8; have hq1 := (show qsh (α 87) 32 (x1 : Int).toNat = α 87 (32 + x1 : Int).toNat by unfold qsh; congr 1; omega); have hq2 := qop_c (α 99 (x1 : Int).toNat) (qsh (α 87) 32 (x1 : Int).toNat) (qbit (σ 86 22) x1) x2; omega)⟩
      · skip
        refine qr_iconst 52 rfl rfl ?_
        refine qr_goto 56 rfl rfl ?_
        refine qr_retZ rfl rfl (by omega) (by decide) (by decide) ?_
        exact ⟨rfl, 1, rfl, by omega, (by have hq0 := qbit_inS (t := (σ 86 22)) (i := x1) (by omega) (by omega) hev7 hev8; have hq1 := (show qsh (α 87) 32 (x1 : Int).toNat = α 87 (32 + x1 : Int).toNat by unfold qsh; congr 1; omega); have hq2 := qop_c (α 99 (x1 : Int).toNat) (qsh (α 87) 32 (x1 : Int).toNat) (qbit (σ 86 22) x1) x2; omega)⟩
    · skip
      refine qr_iload_n 26 rfl rfl rfl ?_
      refine qr_aload_n 27 rfl rfl rfl ?_
      refine qr_get 30 rfl rfl rfl (by decide) rfl ?_
      refine qr_bipush 32 rfl (by decide) rfl ?_
      refine qr_iload_n 33 rfl rfl rfl ?_
      refine qr_iadd 34 rfl rfl ?_
      refine qr_iaload 35 rfl rfl (by omega) (by decide) rfl ?_
      refine qr_topI (fun v10 hv10 => ?_)
      have hs11 : (-2147483648) ≤ v10 ∧ v10 ≤ 2147483647 := by rw [hv10]; exact hI.2.1 87 _ (show _ < 252 by omega)
      refine qr_icmp_ge 55 38 rfl rfl rfl (by omega) (by omega) (fun h12 => ?_) (fun h12 => ?_)
      · skip
        refine qr_iconst 56 rfl rfl ?_
        refine qr_retZ rfl rfl (by omega) (by decide) (by decide) ?_
        exact ⟨rfl, 0, rfl, by omega, (by have hq0 := (show qsh (α 87) 32 (x1 : Int).toNat = α 87 (32 + x1 : Int).toNat by unfold qsh; congr 1; omega); have hq1 := qop_c (α 99 (x1 : Int).toNat) (qsh (α 87) 32 (x1 : Int).toNat) (qbit (σ 86 22) x1) x2; omega)⟩
      · skip
        refine qr_aload_n 39 rfl rfl rfl ?_
        refine qr_get 42 rfl rfl rfl (by decide) rfl ?_
        refine qr_iload_n 43 rfl rfl rfl ?_
        refine qr_lshr 44 rfl rfl ?_
        refine qy_canlE (fun v13 hv13 hev13 => ?_)
        refine qr_lconst 45 rfl rfl ?_
        refine qy_vl 1 rfl ?_
        refine qr_land 46 rfl rfl ?_
        refine qy_canlE (fun v14 hv14 hev14 => ?_)
        refine qr_lconst 47 rfl rfl ?_
        refine qy_vl 0 rfl ?_
        refine qr_lc_ne 55 51 rfl rfl rfl rfl (by omega) (by omega) (fun h15 => ?_) (fun h15 => ?_)
        · skip
          refine qr_iconst 56 rfl rfl ?_
          refine qr_retZ rfl rfl (by omega) (by decide) (by decide) ?_
          exact ⟨rfl, 0, rfl, by omega, (by have hq0 := qbit_inS (t := (σ 86 22)) (i := x1) (by omega) (by omega) hev13 hev14; have hq1 := (show qsh (α 87) 32 (x1 : Int).toNat = α 87 (32 + x1 : Int).toNat by unfold qsh; congr 1; omega); have hq2 := qop_c (α 99 (x1 : Int).toNat) (qsh (α 87) 32 (x1 : Int).toNat) (qbit (σ 86 22) x1) x2; omega)⟩
        · skip
          refine qr_iconst 52 rfl rfl ?_
          refine qr_goto 56 rfl rfl ?_
          refine qr_retZ rfl rfl (by omega) (by decide) (by decide) ?_
          exact ⟨rfl, 1, rfl, by omega, (by have hq0 := qbit_inS (t := (σ 86 22)) (i := x1) (by omega) (by omega) hev13 hev14; have hq1 := (show qsh (α 87) 32 (x1 : Int).toNat = α 87 (32 + x1 : Int).toNat by unfold qsh; congr 1; omega); have hq2 := qop_c (α 99 (x1 : Int).toNat) (qsh (α 87) 32 (x1 : Int).toNat) (qbit (σ 86 22) x1) x2; omega)⟩

set_option maxHeartbeats 4000000 in
set_option maxRecDepth 20000 in
/-- OneRoofModel.byFeud -/
theorem sf_197_86x {L : Nat} {xs : Nat → Int} {vb : Bool} {d : Nat} {σ α : Nat → Nat → Int} {κ : Nat → Option Nat} {ρ : Nat} {x1 : Int} {x2 : Int} {x3 : Int} (hI : qI σ α κ ρ) (r1 : 0 ≤ x1 ∧ x1 ≤ 39) (r2 : 0 ≤ x2 ∧ x2 ≤ 31) (r3 : 0 ≤ x3 ∧ x3 ≤ 31) (p0 : qZf σ α) (p1 : x1 < σ 86 16 ∧ x2 < σ 86 6 ∧ x3 < σ 86 6) : qm_T (qe L xs vb) (d + 4) 197 [.ref 86, .int (qz x1), .int (qz x2), .int (qz x3)] (qw σ α κ ρ) (fun r w' => ∃ σ' α', w' = qw σ' α' κ ρ ∧ qI σ' α' κ ρ ∧ qFr [(86, 15)] [96] σ α σ' α' ∧ ∃ v : Int, r = some (.int (qz v)) ∧ (0 ≤ v ∧ v ≤ 99) ∧ (((qd9 (α 94) (α 95) (σ 86 11) x2 (α 97 (x1 : Int).toNat) ≤ α 100 (x1 : Int).toNat ∧ qd9 (α 94) (α 95) (σ 86 11) x3 (α 98 (x1 : Int).toNat) ≤ α 100 (x1 : Int).toNat) ∧ v = qd9 (α 94) (α 95) (σ 86 11) x2 (α 97 (x1 : Int).toNat) + qd9 (α 94) (α 95) (σ 86 11) x3 (α 98 (x1 : Int).toNat)) ∨ (¬ (qd9 (α 94) (α 95) (σ 86 11) x2 (α 97 (x1 : Int).toNat) ≤ α 100 (x1 : Int).toNat ∧ qd9 (α 94) (α 95) (σ 86 11) x3 (α 98 (x1 : Int).toNat) ≤ α 100 (x1 : Int).toNat) ∧ v = 99))) := by
  refine qr_start (d := d + 3) qv_e197 (Nat.le_of_ble_eq_true rfl) ?_
  show qr_W (qe L xs vb) (d + 3) qx_e197 _ (0, [(0, .ref 86), (1, .int (qz x1)), (2, .int (qz x2)), (3, .int (qz x3))], [], _, 0, 0)
  have hF0 := qFr_rf [(86, 15)] [96] σ α
  have hz86_11 : 0 ≤ σ 86 11 ∧ σ 86 11 ≤ 61 := hI.1 86 11
  have hz86_16 : 0 ≤ σ 86 16 ∧ σ 86 16 ≤ 40 := hI.1 86 16
  have hz86_6 : 0 ≤ σ 86 6 ∧ σ 86 6 ≤ 32 := hI.1 86 6
  refine qr_aload_n 1 rfl rfl rfl ?_
  refine qr_iload_n 2 rfl rfl rfl ?_
  refine qr_aload_n 3 rfl rfl rfl ?_
  refine qr_get 6 rfl rfl rfl (by decide) rfl ?_
  refine qr_iload_n 7 rfl rfl rfl ?_
  refine qr_iaload 8 rfl rfl (by omega) (by decide) rfl ?_
  refine qr_topI (fun v1 hv1 => ?_)
  have hs2 : 0 ≤ v1 ∧ v1 ≤ 31 := by rw [hv1]; exact hI.2.1 97 _ (show _ < 40 by omega)
  have hrv1 : v1 = (α 97) (x1 : Int).toNat := hv1
  have hz := p0 (x1 : Int).toNat (by omega)
  have hs3 : 0 ≤ σ 86 6 ∧ σ 86 6 ≤ 32 := hI.1 86 6
  refine qr_callN 11 rfl rfl rfl (sf_187_86x (d := d + 0) hI (by omega) (by omega) (by omega)) ?_
  rintro _ _ ⟨σ6, α7, rfl, hI8, hG9, v4, rfl, hv4, hx5⟩
  have hF10 : qFr [(86, 15)] [96] σ α σ6 α7 := qFr_t hF0 hG9 (by decide) (by decide)
  show qr_W (qe L xs vb) (d + 3) qx_e197 _ (11, _, [.int (qz v4)], qw σ6 α7 κ ρ, 0, 0)
  refine qr_istore _ 13 rfl (by decide) rfl rfl ?_
  refine qr_aload_n 14 rfl rfl rfl ?_
  refine qr_iload_n 15 rfl rfl rfl ?_
  refine qr_aload_n 16 rfl rfl rfl ?_
  refine qr_get 19 rfl rfl rfl (by decide) rfl ?_
  refine qr_iload_n 20 rfl rfl rfl ?_
  refine qr_iaload 21 rfl rfl (by omega) (by decide) rfl ?_
  refine qr_topI (fun v11 hv11 => ?_)
  have hs12 : 0 ≤ v11 ∧ v11 ≤ 31 := by rw [hv11]; exact hI8.2.1 98 _ (show _ < 40 by omega)
  have hrv11 : v11 = (α 98) (x1 : Int).toNat := hv11.trans (congrFun ((hG9.2 98 (by decide)).trans rfl) _)
  have hs13 : 0 ≤ σ6 86 6 ∧ σ6 86 6 ≤ 32 := hI8.1 86 6
  have hs14 : σ6 86 6 = (σ 86 6) := (hG9.1 86 6 (by decide)).trans rfl
  refine qr_callN 24 rfl rfl rfl (sf_187_86x (d := d + 0) hI8 (by omega) (by omega) (by omega)) ?_
  rintro _ _ ⟨σ17, α18, rfl, hI19, hG20, v15, rfl, hv15, hx16⟩
  have hF21 : qFr [(86, 15)] [96] σ α σ17 α18 := qFr_t hF10 hG20 (by decide) (by decide)
  rw [hF10.2 94 (by decide), hF10.2 95 (by decide), hF10.1 86 11 (by decide)] at hx16
  show qr_W (qe L xs vb) (d + 3) qx_e197 _ (24, _, [.int (qz v15)], qw σ17 α18 κ ρ, 0, 0)
  refine qr_istore _ 26 rfl (by decide) rfl rfl ?_
  refine qr_iload 28 rfl rfl rfl ?_
  refine qr_aload_n 29 rfl rfl rfl ?_
  refine qr_get 32 rfl rfl rfl (by decide) rfl ?_
  refine qr_iload_n 33 rfl rfl rfl ?_
  refine qr_iaload 34 rfl rfl (by omega) (by decide) rfl ?_
  refine qr_topI (fun v22 hv22 => ?_)
  have hs23 : (-2147483648) ≤ v22 ∧ v22 ≤ 2147483647 := by rw [hv22]; exact hI19.2.1 100 _ (show _ < 40 by omega)
  have hrv22 : v22 = (α 100) (x1 : Int).toNat := hv22.trans (congrFun ((hG20.2 100 (by decide)).trans ((hG9.2 100 (by decide)).trans rfl)) _)
  refine qr_icmp_gt 56 37 rfl rfl rfl (by omega) (by omega) (fun h24 => ?_) (fun h24 => ?_)
  · skip
    refine qr_bipush 58 rfl (by decide) rfl ?_
    refine qr_retI rfl rfl (by decide) (by decide) ?_
    exact ⟨_, _, rfl, hI19, hF21, 99, rfl, by omega, (by have e1 : v1 = α 97 (x1 : Int).toNat := hrv1; have e2 : v11 = α 98 (x1 : Int).toNat := hrv11; rw [e1] at hx5; rw [e2] at hx16; omega)⟩
  · skip
    refine qr_iload 39 rfl rfl rfl ?_
    refine qr_aload_n 40 rfl rfl rfl ?_
    refine qr_get 43 rfl rfl rfl (by decide) rfl ?_
    refine qr_iload_n 44 rfl rfl rfl ?_
    refine qr_iaload 45 rfl rfl (by omega) (by decide) rfl ?_
    refine qr_topI (fun v25 hv25 => ?_)
    have hs26 : (-2147483648) ≤ v25 ∧ v25 ≤ 2147483647 := by rw [hv25]; exact hI19.2.1 100 _ (show _ < 40 by omega)
    have hrv25 : v25 = (α 100) (x1 : Int).toNat := hv25.trans (congrFun ((hG20.2 100 (by decide)).trans ((hG9.2 100 (by decide)).trans rfl)) _)
    refine qr_icmp_gt 56 48 rfl rfl rfl (by omega) (by omega) (fun h27 => ?_) (fun h27 => ?_)
    · skip
      refine qr_bipush 58 rfl (by decide) rfl ?_
      refine qr_retI rfl rfl (by decide) (by decide) ?_
      exact ⟨_, _, rfl, hI19, hF21, 99, rfl, by omega, (by have e1 : v1 = α 97 (x1 : Int).toNat := hrv1; have e2 : v11 = α 98 (x1 : Int).toNat := hrv11; rw [e1] at hx5; rw [e2] at hx16; omega)⟩
    · skip
      refine qr_iload 50 rfl rfl rfl ?_
      refine qr_iload 52 rfl rfl rfl ?_
      refine qr_iadd 53 rfl rfl ?_
      refine qr_goto 58 rfl rfl ?_
      refine qr_retI rfl rfl (by decide) (by decide) ?_
      exact ⟨_, _, rfl, hI19, hF21, (v4 + v15), rfl, by omega, (by have e1 : v1 = α 97 (x1 : Int).toNat := hrv1; have e2 : v11 = α 98 (x1 : Int).toNat := hrv11; rw [e1] at hx5; rw [e2] at hx16; omega)⟩

set_option maxHeartbeats 4000000 in
set_option maxRecDepth 20000 in
/-- OneRoofModel.nearOf -/
theorem sf_195_86x {L : Nat} {xs : Nat → Int} {vb : Bool} {d : Nat} {σ α : Nat → Nat → Int} {κ : Nat → Option Nat} {ρ : Nat} {x1 : Int} {x2 : Int} {x3 : Int} (hI : qI σ α κ ρ) (r1 : 0 ≤ x1 ∧ x1 ≤ 31) (r2 : 0 ≤ x2 ∧ x2 ≤ 31) (r3 : (-2147483648) ≤ x3 ∧ x3 ≤ 2147483647) (p0 : qZf σ α) (p1 : x1 < σ 86 6 ∧ x2 < σ 86 6) : qm_T (qe L xs vb) (d + 5) 195 [.ref 86, .int (qz x1), .int (qz x2), .int (qz x3)] (qw σ α κ ρ) (fun r w' => ∃ σ' α', w' = qw σ' α' κ ρ ∧ qI σ' α' κ ρ ∧ qFr [(86, 15), (86, 23)] [96] σ α σ' α' ∧ ∃ v : Int, r = some (.int (qz v)) ∧ (0 ≤ v ∧ v ≤ 99) ∧ ((x1 = x2 ∧ v = 99) ∨ (¬ x1 = x2 ∧ ((v = 99 ∧ 576 ≤ qnF (qd9 (α 94) (α 95) (σ 86 11)) (α 97) (α 98) (α 100) (α 99) (qsh (α 87) 32) (σ 86 22) (σ 86 16) x1 x2 x3) ∨ (0 ≤ v ∧ v ≤ 6 ∧ qnF (qd9 (α 94) (α 95) (σ 86 11)) (α 97) (α 98) (α 100) (α 99) (qsh (α 87) 32) (σ 86 22) (σ 86 16) x1 x2 x3 = 64 * v + σ' 86 23 ∧ 0 ≤ σ' 86 23 ∧ σ' 86 23 < 40))))) := by
  refine qr_start (d := d + 4) qv_e195 (Nat.le_of_ble_eq_true rfl) ?_
  show qr_W (qe L xs vb) (d + 4) qx_e195 _ (0, [(0, .ref 86), (1, .int (qz x1)), (2, .int (qz x2)), (3, .int (qz x3))], [], _, 0, 0)
  have hF0 := qFr_rf [(86, 15), (86, 23)] [96] σ α
  have hz86_11 : 0 ≤ σ 86 11 ∧ σ 86 11 ≤ 61 := hI.1 86 11
  have hz86_22 : (-9223372036854775808) ≤ σ 86 22 ∧ σ 86 22 ≤ 9223372036854775807 := hI.1 86 22
  have hz86_16 : 0 ≤ σ 86 16 ∧ σ 86 16 ≤ 40 := hI.1 86 16
  have hz86_6 : 0 ≤ σ 86 6 ∧ σ 86 6 ≤ 32 := hI.1 86 6
  refine qr_bipush 2 rfl (by decide) rfl ?_
  refine qr_istore _ 4 rfl (by decide) rfl rfl ?_
  refine qr_iconst 5 rfl rfl ?_
  refine qr_istore _ 7 rfl (by decide) rfl rfl ?_
  have hL895 : ∀ (n : Nat) (ls : qm_L) (u880 u882 : Int) (σ883 α884 : Nat → Nat → Int), 40 - u882 < (n : Int) → qm_get ls 0 = some (.ref 86) → qm_get ls 1 = some (.int (qz x1)) → qm_get ls 2 = some (.int (qz x2)) → qm_get ls 3 = some (.int (qz x3)) → qm_get ls 4 = some (.int (qz u880)) → qm_get ls 5 = some (.int (qz u882)) → (0 ≤ u880 ∧ u880 ≤ 99) → (0 ≤ u882 ∧ u882 ≤ 40) → qI σ883 α884 κ ρ → qFr [(86, 15), (86, 23)] [96] σ α σ883 α884 → σ883 86 6 = (σ 86 6) → σ883 86 11 = (σ 86 11) → σ883 86 16 = (σ 86 16) → σ883 86 22 = (σ 86 22) → (((u880 = 99 ∧ qnk (qoF (α 99) (qsh (α 87) 32) (σ 86 22) x3) (qcF (qd9 (α 94) (α 95) (σ 86 11)) (α 97) (α 98) (α 100) x1 x2) (u882 : Int).toNat = 576) ∨ (0 ≤ u880 ∧ u880 ≤ 6 ∧ qnk (qoF (α 99) (qsh (α 87) 32) (σ 86 22) x3) (qcF (qd9 (α 94) (α 95) (σ 86 11)) (α 97) (α 98) (α 100) x1 x2) (u882 : Int).toNat = 64 * u880 + σ883 86 23 ∧ 0 ≤ σ883 86 23 ∧ σ883 86 23 < u882)) ∧ (x1 = x2 → u880 = 99)) → u882 ≤ σ 86 16 → qr_W (qe L xs vb) (d + 4) qx_e195 (fun r w' => ∃ σ' α', w' = qw σ' α' κ ρ ∧ qI σ' α' κ ρ ∧ qFr [(86, 15), (86, 23)] [96] σ α σ' α' ∧ ∃ v : Int, r = some (.int (qz v)) ∧ (0 ≤ v ∧ v ≤ 99) ∧ ((x1 = x2 ∧ v = 99) ∨ (¬ x1 = x2 ∧ ((v = 99 ∧ 576 ≤ qnF (qd9 (α 94) (α 95) (σ 86 11)) (α 97) (α 98) (α 100) (α 99) (qsh (α 87) 32) (σ 86 22) (σ 86 16) x1 x2 x3) ∨ (0 ≤ v ∧ v ≤ 6 ∧ qnF (qd9 (α 94) (α 95) (σ 86 11)) (α 97) (α 98) (α 100) (α 99) (qsh (α 87) 32) (σ 86 22) (σ 86 16) x1 x2 x3 = 64 * v + σ' 86 23 ∧ 0 ≤ σ' 86 23 ∧ σ' 86 23 < 40))))) (7, ls, [], qw σ883 α884 κ ρ, 0, 0) := by
    intro n
    induction n with
    | zero => intro ls u880 u882 σ883 α884 hm g875 g876 g877 g878 g879 g881 hf891 hf892 hI885 hF886 hk887 hk888 hk889 hk890 hx893 hx894; exact False.elim (by omega)
    | succ n ih896 =>
      intro ls u880 u882 σ883 α884 hm g875 g876 g877 g878 g879 g881 hf891 hf892 hI885 hF886 hk887 hk888 hk889 hk890 hx893 hx894
      have hs897 : (-2147483648) ≤ σ883 86 23 ∧ σ883 86 23 ≤ 2147483647 := hI885.1 86 23
      refine qr_iload 9 rfl g881 rfl ?_
      refine qr_aload_n 10 rfl g875 rfl ?_
      refine qr_get 13 rfl rfl rfl (by decide) rfl ?_
      refine qy_v (σ 86 16) ((hk889).trans rfl) ?_
      refine qr_icmp_ge 93 16 rfl rfl rfl (by omega) (by omega) (fun h898 => ?_) (fun h898 => ?_)
      · skip
        refine qr_iload 95 rfl g879 rfl ?_
        refine qr_retI rfl rfl (by decide) (by decide) ?_
        have hw899 : σ883 86 23 = (σ883 86 23) := rfl
        exact ⟨_, _, rfl, hI885, hF886, u880, rfl, by omega, (by have hk : x1 = x2 ∨ qnF (qd9 (α 94) (α 95) (σ 86 11)) (α 97) (α 98) (α 100) (α 99) (qsh (α 87) 32) (σ 86 22) (σ 86 16) x1 x2 x3 = qnk (qoF (α 99) (qsh (α 87) 32) (σ 86 22) x3) (qcF (qd9 (α 94) (α 95) (σ 86 11)) (α 97) (α 98) (α 100) x1 x2) (u882 : Int).toNat := (by by_cases e : x1 = x2; (exact Or.inl e); (refine Or.inr ?_; unfold qnF; rw [show (σ 86 16) = u882 by omega])); have hw : σ883 86 23 = (σ883 86 23) := rfl;  omega)⟩
      · skip
        refine qr_iload_n 17 rfl g876 rfl ?_
        refine qr_iload_n 18 rfl g877 rfl ?_
        refine qr_icmp_eq 93 21 rfl rfl rfl (by omega) (by omega) (fun h900 => ?_) (fun h900 => ?_)
        · skip
          refine qr_iload 95 rfl g879 rfl ?_
          refine qr_retI rfl rfl (by decide) (by decide) ?_
          have hw901 : σ883 86 23 = (σ883 86 23) := rfl
          exact ⟨_, _, rfl, hI885, hF886, u880, rfl, by omega, (by have hk : x1 = x2 ∨ qnF (qd9 (α 94) (α 95) (σ 86 11)) (α 97) (α 98) (α 100) (α 99) (qsh (α 87) 32) (σ 86 22) (σ 86 16) x1 x2 x3 = qnk (qoF (α 99) (qsh (α 87) 32) (σ 86 22) x3) (qcF (qd9 (α 94) (α 95) (σ 86 11)) (α 97) (α 98) (α 100) x1 x2) (u882 : Int).toNat := (by by_cases e : x1 = x2; (exact Or.inl e); (refine Or.inr ?_; unfold qnF; rw [show (σ 86 16) = u882 by omega])); have hw : σ883 86 23 = (σ883 86 23) := rfl;  omega)⟩
        · skip
          refine qr_aload_n 22 rfl g875 rfl ?_
          refine qr_iload 24 rfl g881 rfl ?_
          refine qr_iload_n 25 rfl g878 rfl ?_
          refine qr_callN 28 rfl rfl rfl (sf_196_86x (d := d + 3) hI885 (by omega) (by omega)) ?_
          have hs904 : (-9223372036854775808) ≤ σ883 86 22 ∧ σ883 86 22 ≤ 9223372036854775807 := hI885.1 86 22
          have hs905 : σ883 86 22 = (σ 86 22) := (hk890).trans rfl
          rintro _ _ ⟨rfl, v902, rfl, hv902, hp903⟩
          rw [hF886.2 87 (by decide), hF886.2 99 (by decide), hF886.1 86 22 (by decide)] at hp903
          show qr_W (qe L xs vb) (d + 4) qx_e195 _ (28, _, [.int (qz v902)], qw σ883 α884 κ ρ, 0, 0)
          refine qr_if_ne 34 31 rfl rfl rfl (by omega) (fun h906 => ?_) (fun h906 => ?_)
          · skip
            refine qr_aload_n 35 rfl g875 rfl ?_
            refine qr_iload 37 rfl g881 rfl ?_
            refine qr_iload_n 38 rfl g876 rfl ?_
            refine qr_iload_n 39 rfl g877 rfl ?_
            have hs907 : 0 ≤ σ883 86 16 ∧ σ883 86 16 ≤ 40 := hI885.1 86 16
            have hs908 : σ883 86 16 = (σ 86 16) := (hk889).trans rfl
            have hs909 : 0 ≤ σ883 86 6 ∧ σ883 86 6 ≤ 32 := hI885.1 86 6
            have hs910 : σ883 86 6 = (σ 86 6) := (hk887).trans rfl
            refine qr_callN 42 rfl rfl rfl (sf_197_86x (d := d + 0) hI885 (by omega) (by omega) (by omega) (qZf_fr hF886 (by decide) (by decide) p0) (by omega)) ?_
            have hs913 : 0 ≤ σ883 86 11 ∧ σ883 86 11 ≤ 61 := hI885.1 86 11
            have hs914 : σ883 86 11 = (σ 86 11) := (hk888).trans rfl
            rintro _ _ ⟨σ915, α916, rfl, hI917, hG918, v911, rfl, hv911, hp912⟩
            have hF919 : qFr [(86, 15), (86, 23)] [96] σ α σ915 α916 := qFr_t hF886 hG918 (by decide) (by decide)
            rw [hF886.2 94 (by decide), hF886.2 95 (by decide), hF886.2 97 (by decide), hF886.2 98 (by decide), hF886.2 100 (by decide), hF886.1 86 11 (by decide)] at hp912
            show qr_W (qe L xs vb) (d + 4) qx_e195 _ (42, _, [.int (qz v911)], qw σ915 α916 κ ρ, 0, 0)
            refine qr_istore _ 44 rfl (by decide) rfl rfl ?_
            refine qr_aload_n 45 rfl (qm_gk g875 (by decide) (Or.inl (by decide))) rfl ?_
            refine qr_iload 47 rfl (qm_gk g881 (by decide) (Or.inr rfl)) rfl ?_
            refine qr_iload_n 48 rfl (qm_gk g877 (by decide) (Or.inl (by decide))) rfl ?_
            refine qr_iload_n 49 rfl (qm_gk g876 (by decide) (Or.inl (by decide))) rfl ?_
            have hs920 : 0 ≤ σ915 86 16 ∧ σ915 86 16 ≤ 40 := hI917.1 86 16
            have hs921 : σ915 86 16 = (σ 86 16) := (hG918.1 86 16 (by decide)).trans ((hk889).trans rfl)
            have hs922 : 0 ≤ σ915 86 6 ∧ σ915 86 6 ≤ 32 := hI917.1 86 6
            have hs923 : σ915 86 6 = (σ 86 6) := (hG918.1 86 6 (by decide)).trans ((hk887).trans rfl)
            refine qr_callN 52 rfl rfl rfl (sf_197_86x (d := d + 0) hI917 (by omega) (by omega) (by omega) (qZf_fr hF919 (by decide) (by decide) p0) (by omega)) ?_
            have hs926 : 0 ≤ σ915 86 11 ∧ σ915 86 11 ≤ 61 := hI917.1 86 11
            have hs927 : σ915 86 11 = (σ 86 11) := (hG918.1 86 11 (by decide)).trans ((hk888).trans rfl)
            rintro _ _ ⟨σ928, α929, rfl, hI930, hG931, v924, rfl, hv924, hp925⟩
            have hF932 : qFr [(86, 15), (86, 23)] [96] σ α σ928 α929 := qFr_t hF919 hG931 (by decide) (by decide)
            rw [hF919.2 94 (by decide), hF919.2 95 (by decide), hF919.2 97 (by decide), hF919.2 98 (by decide), hF919.2 100 (by decide), hF919.1 86 11 (by decide)] at hp925
            show qr_W (qe L xs vb) (d + 4) qx_e195 _ (52, _, [.int (qz v924)], qw σ928 α929 κ ρ, 0, 0)
            refine qr_istore _ 54 rfl (by decide) rfl rfl ?_
            refine qr_iload 56 rfl (qm_gk (qm_ge _ _ _) (by decide) (Or.inr rfl)) rfl ?_
            refine qr_iload 58 rfl (qm_ge _ _ _) rfl ?_
            refine qr_icmp_ge 66 61 rfl rfl rfl (by omega) (by omega) (fun h933 => ?_) (fun h933 => ?_)
            · skip
              refine qr_iload 68 rfl (qm_ge _ _ _) rfl ?_
              refine qr_istore _ 70 rfl (by decide) rfl rfl ?_
              refine qr_iload 72 rfl (qm_ge _ _ _) rfl ?_
              refine qr_iload 74 rfl (qm_gk (qm_gk (qm_gk g879 (by decide) (Or.inl (by decide))) (by decide) (Or.inl (by decide))) (by decide) (Or.inl (by decide))) rfl ?_
              refine qr_icmp_ge 87 77 rfl rfl rfl (by omega) (by omega) (fun h934 => ?_) (fun h934 => ?_)
              · skip
                refine qr_iinc _ 90 rfl (qm_gk (qm_gk (qm_gk g881 (by decide) (Or.inr rfl)) (by decide) (Or.inl (by decide))) (by decide) (Or.inl (by decide))) (by decide) rfl rfl ?_
                refine qr_goto 7 rfl rfl ?_
                exact ih896 _ u880 (u882 + 1) σ928 α929 (by omega) (qm_gk (qm_gk (qm_gk (qm_gk g875 (by decide) (Or.inl (by decide))) (by decide) (Or.inl (by decide))) (by decide) (Or.inl (by decide))) (by decide) (Or.inl (by decide))) (qm_gk (qm_gk (qm_gk (qm_gk g876 (by decide) (Or.inl (by decide))) (by decide) (Or.inl (by decide))) (by decide) (Or.inl (by decide))) (by decide) (Or.inl (by decide))) (qm_gk (qm_gk (qm_gk (qm_gk g877 (by decide) (Or.inl (by decide))) (by decide) (Or.inl (by decide))) (by decide) (Or.inl (by decide))) (by decide) (Or.inl (by decide))) (qm_gk (qm_gk (qm_gk (qm_gk g878 (by decide) (Or.inl (by decide))) (by decide) (Or.inl (by decide))) (by decide) (Or.inl (by decide))) (by decide) (Or.inl (by decide))) (qm_gk (qm_gk (qm_gk (qm_gk g879 (by decide) (Or.inl (by decide))) (by decide) (Or.inl (by decide))) (by decide) (Or.inl (by decide))) (by decide) (Or.inr rfl)) (qm_ge _ _ _) (by omega) (by omega) hI930 hF932 ((hG931.1 86 6 (by decide)).trans ((hG918.1 86 6 (by decide)).trans ((hk887).trans rfl))) ((hG931.1 86 11 (by decide)).trans ((hG918.1 86 11 (by decide)).trans ((hk888).trans rfl))) ((hG931.1 86 16 (by decide)).trans ((hG918.1 86 16 (by decide)).trans ((hk889).trans rfl))) ((hG931.1 86 22 (by decide)).trans ((hG918.1 86 22 (by decide)).trans ((hk890).trans rfl))) (by have hq0 := qnk_s (qoF (α 99) (qsh (α 87) 32) (σ 86 22) x3) (qcF (qd9 (α 94) (α 95) (σ 86 11)) (α 97) (α 98) (α 100) x1 x2) (i := u882) (by omega); have hq1 := qoF_a (α 99) (qsh (α 87) 32) (σ 86 22) x3 (i := u882) (by omega); have hq2 := (show (qcF (qd9 (α 94) (α 95) (σ 86 11)) (α 97) (α 98) (α 100) x1 x2) ((u882 : Int).toNat) = qcl _ _ _ _ _ from rfl); have hq3 := qcl_m (t := α 100 (u882 : Int).toNat) hp912 hp925 (qd9_r (α 94) (α 95) (σ 86 11) x1 (α 97 (u882 : Int).toNat)).1 (qd9_r (α 94) (α 95) (σ 86 11) x2 (α 98 (u882 : Int).toNat)).1 (qd9_r (α 94) (α 95) (σ 86 11) x2 (α 97 (u882 : Int).toNat)).1 (qd9_r (α 94) (α 95) (σ 86 11) x1 (α 98 (u882 : Int).toNat)).1 (by have := p0 (u882 : Int).toNat (by omega); omega); have hq4 := (show σ928 86 23 = (σ883 86 23) from (hG931.1 86 23 (by decide)).trans ((hG918.1 86 23 (by decide)).trans rfl)); omega) (by omega)
              · skip
                refine qr_iload 79 rfl (qm_ge _ _ _) rfl ?_
                refine qr_istore _ 81 rfl (by decide) rfl rfl ?_
                refine qr_aload_n 82 rfl (qm_gk (qm_gk (qm_gk (qm_gk g875 (by decide) (Or.inl (by decide))) (by decide) (Or.inl (by decide))) (by decide) (Or.inl (by decide))) (by decide) (Or.inl (by decide))) rfl ?_
                refine qr_iload 84 rfl (qm_gk (qm_gk (qm_gk (qm_gk g881 (by decide) (Or.inr rfl)) (by decide) (Or.inl (by decide))) (by decide) (Or.inl (by decide))) (by decide) (Or.inl (by decide))) rfl ?_
                refine qr_put 87 rfl (by decide) rfl (Nat.le_of_ble_eq_true rfl) (Nat.le_of_ble_eq_true rfl) (Or.inl rfl) (qr_fitI rfl _) rfl ?_
                refine qy_wS (qw_s σ928 86 23 u882) rfl (fun σ935 e936 => ?_)
                have hI937 : qI σ935 α929 κ ρ := by rw [e936]; exact qI_s hI930 86 23 rfl (show (-2147483648) ≤ u882 ∧ u882 ≤ 2147483647 by omega)
                have hF938 : qFr [(86, 15), (86, 23)] [96] σ α σ935 α929 := by rw [e936]; exact qFr_s hF932 86 23 _ (by decide)
                refine qr_iinc _ 90 rfl (qm_gk (qm_gk (qm_gk (qm_gk g881 (by decide) (Or.inr rfl)) (by decide) (Or.inl (by decide))) (by decide) (Or.inl (by decide))) (by decide) (Or.inl (by decide))) (by decide) rfl rfl ?_
                refine qr_goto 7 rfl rfl ?_
                exact ih896 _ v924 (u882 + 1) σ935 α929 (by omega) (qm_gk (qm_gk (qm_gk (qm_gk (qm_gk g875 (by decide) (Or.inl (by decide))) (by decide) (Or.inl (by decide))) (by decide) (Or.inl (by decide))) (by decide) (Or.inl (by decide))) (by decide) (Or.inl (by decide))) (qm_gk (qm_gk (qm_gk (qm_gk (qm_gk g876 (by decide) (Or.inl (by decide))) (by decide) (Or.inl (by decide))) (by decide) (Or.inl (by decide))) (by decide) (Or.inl (by decide))) (by decide) (Or.inl (by decide))) (qm_gk (qm_gk (qm_gk (qm_gk (qm_gk g877 (by decide) (Or.inl (by decide))) (by decide) (Or.inl (by decide))) (by decide) (Or.inl (by decide))) (by decide) (Or.inl (by decide))) (by decide) (Or.inl (by decide))) (qm_gk (qm_gk (qm_gk (qm_gk (qm_gk g878 (by decide) (Or.inl (by decide))) (by decide) (Or.inl (by decide))) (by decide) (Or.inl (by decide))) (by decide) (Or.inr rfl)) (by decide) (Or.inl (by decide))) (qm_gk (qm_ge _ _ _) (by decide) (Or.inr rfl)) (qm_ge _ _ _) (by omega) (by omega) hI937 hF938 ((congrFun (congrFun e936 86) 6).trans ((hG931.1 86 6 (by decide)).trans ((hG918.1 86 6 (by decide)).trans ((hk887).trans rfl)))) ((congrFun (congrFun e936 86) 11).trans ((hG931.1 86 11 (by decide)).trans ((hG918.1 86 11 (by decide)).trans ((hk888).trans rfl)))) ((congrFun (congrFun e936 86) 16).trans ((hG931.1 86 16 (by decide)).trans ((hG918.1 86 16 (by decide)).trans ((hk889).trans rfl)))) ((congrFun (congrFun e936 86) 22).trans ((hG931.1 86 22 (by decide)).trans ((hG918.1 86 22 (by decide)).trans ((hk890).trans rfl)))) (by have hq0 := qnk_s (qoF (α 99) (qsh (α 87) 32) (σ 86 22) x3) (qcF (qd9 (α 94) (α 95) (σ 86 11)) (α 97) (α 98) (α 100) x1 x2) (i := u882) (by omega); have hq1 := qoF_a (α 99) (qsh (α 87) 32) (σ 86 22) x3 (i := u882) (by omega); have hq2 := (show (qcF (qd9 (α 94) (α 95) (σ 86 11)) (α 97) (α 98) (α 100) x1 x2) ((u882 : Int).toNat) = qcl _ _ _ _ _ from rfl); have hq3 := qcl_m (t := α 100 (u882 : Int).toNat) hp912 hp925 (qd9_r (α 94) (α 95) (σ 86 11) x1 (α 97 (u882 : Int).toNat)).1 (qd9_r (α 94) (α 95) (σ 86 11) x2 (α 98 (u882 : Int).toNat)).1 (qd9_r (α 94) (α 95) (σ 86 11) x2 (α 97 (u882 : Int).toNat)).1 (qd9_r (α 94) (α 95) (σ 86 11) x1 (α 98 (u882 : Int).toNat)).1 (by have := p0 (u882 : Int).toNat (by omega); omega); have hq4 := (show σ935 86 23 = u882 from (congrFun (congrFun e936 86) 23).trans rfl); omega) (by omega)
            · skip
              refine qr_iload 63 rfl (qm_gk (qm_ge _ _ _) (by decide) (Or.inr rfl)) rfl ?_
              refine qr_goto 68 rfl rfl ?_
              refine qr_istore _ 70 rfl (by decide) rfl rfl ?_
              refine qr_iload 72 rfl (qm_ge _ _ _) rfl ?_
              refine qr_iload 74 rfl (qm_gk (qm_gk (qm_gk g879 (by decide) (Or.inl (by decide))) (by decide) (Or.inl (by decide))) (by decide) (Or.inl (by decide))) rfl ?_
              refine qr_icmp_ge 87 77 rfl rfl rfl (by omega) (by omega) (fun h939 => ?_) (fun h939 => ?_)
              · skip
                refine qr_iinc _ 90 rfl (qm_gk (qm_gk (qm_gk g881 (by decide) (Or.inr rfl)) (by decide) (Or.inl (by decide))) (by decide) (Or.inl (by decide))) (by decide) rfl rfl ?_
                refine qr_goto 7 rfl rfl ?_
                exact ih896 _ u880 (u882 + 1) σ928 α929 (by omega) (qm_gk (qm_gk (qm_gk (qm_gk g875 (by decide) (Or.inl (by decide))) (by decide) (Or.inl (by decide))) (by decide) (Or.inl (by decide))) (by decide) (Or.inl (by decide))) (qm_gk (qm_gk (qm_gk (qm_gk g876 (by decide) (Or.inl (by decide))) (by decide) (Or.inl (by decide))) (by decide) (Or.inl (by decide))) (by decide) (Or.inl (by decide))) (qm_gk (qm_gk (qm_gk (qm_gk g877 (by decide) (Or.inl (by decide))) (by decide) (Or.inl (by decide))) (by decide) (Or.inl (by decide))) (by decide) (Or.inl (by decide))) (qm_gk (qm_gk (qm_gk (qm_gk g878 (by decide) (Or.inl (by decide))) (by decide) (Or.inl (by decide))) (by decide) (Or.inl (by decide))) (by decide) (Or.inl (by decide))) (qm_gk (qm_gk (qm_gk (qm_gk g879 (by decide) (Or.inl (by decide))) (by decide) (Or.inl (by decide))) (by decide) (Or.inl (by decide))) (by decide) (Or.inr rfl)) (qm_ge _ _ _) (by omega) (by omega) hI930 hF932 ((hG931.1 86 6 (by decide)).trans ((hG918.1 86 6 (by decide)).trans ((hk887).trans rfl))) ((hG931.1 86 11 (by decide)).trans ((hG918.1 86 11 (by decide)).trans ((hk888).trans rfl))) ((hG931.1 86 16 (by decide)).trans ((hG918.1 86 16 (by decide)).trans ((hk889).trans rfl))) ((hG931.1 86 22 (by decide)).trans ((hG918.1 86 22 (by decide)).trans ((hk890).trans rfl))) (by have hq0 := qnk_s (qoF (α 99) (qsh (α 87) 32) (σ 86 22) x3) (qcF (qd9 (α 94) (α 95) (σ 86 11)) (α 97) (α 98) (α 100) x1 x2) (i := u882) (by omega); have hq1 := qoF_a (α 99) (qsh (α 87) 32) (σ 86 22) x3 (i := u882) (by omega); have hq2 := (show (qcF (qd9 (α 94) (α 95) (σ 86 11)) (α 97) (α 98) (α 100) x1 x2) ((u882 : Int).toNat) = qcl _ _ _ _ _ from rfl); have hq3 := qcl_m (t := α 100 (u882 : Int).toNat) hp912 hp925 (qd9_r (α 94) (α 95) (σ 86 11) x1 (α 97 (u882 : Int).toNat)).1 (qd9_r (α 94) (α 95) (σ 86 11) x2 (α 98 (u882 : Int).toNat)).1 (qd9_r (α 94) (α 95) (σ 86 11) x2 (α 97 (u882 : Int).toNat)).1 (qd9_r (α 94) (α 95) (σ 86 11) x1 (α 98 (u882 : Int).toNat)).1 (by have := p0 (u882 : Int).toNat (by omega); omega); have hq4 := (show σ928 86 23 = (σ883 86 23) from (hG931.1 86 23 (by decide)).trans ((hG918.1 86 23 (by decide)).trans rfl)); omega) (by omega)
              · skip
                refine qr_iload 79 rfl (qm_ge _ _ _) rfl ?_
                refine qr_istore _ 81 rfl (by decide) rfl rfl ?_
                refine qr_aload_n 82 rfl (qm_gk (qm_gk (qm_gk (qm_gk g875 (by decide) (Or.inl (by decide))) (by decide) (Or.inl (by decide))) (by decide) (Or.inl (by decide))) (by decide) (Or.inl (by decide))) rfl ?_
                refine qr_iload 84 rfl (qm_gk (qm_gk (qm_gk (qm_gk g881 (by decide) (Or.inr rfl)) (by decide) (Or.inl (by decide))) (by decide) (Or.inl (by decide))) (by decide) (Or.inl (by decide))) rfl ?_
                refine qr_put 87 rfl (by decide) rfl (Nat.le_of_ble_eq_true rfl) (Nat.le_of_ble_eq_true rfl) (Or.inl rfl) (qr_fitI rfl _) rfl ?_
                refine qy_wS (qw_s σ928 86 23 u882) rfl (fun σ940 e941 => ?_)
                have hI942 : qI σ940 α929 κ ρ := by rw [e941]; exact qI_s hI930 86 23 rfl (show (-2147483648) ≤ u882 ∧ u882 ≤ 2147483647 by omega)
                have hF943 : qFr [(86, 15), (86, 23)] [96] σ α σ940 α929 := by rw [e941]; exact qFr_s hF932 86 23 _ (by decide)
                refine qr_iinc _ 90 rfl (qm_gk (qm_gk (qm_gk (qm_gk g881 (by decide) (Or.inr rfl)) (by decide) (Or.inl (by decide))) (by decide) (Or.inl (by decide))) (by decide) (Or.inl (by decide))) (by decide) rfl rfl ?_
                refine qr_goto 7 rfl rfl ?_
                exact ih896 _ v911 (u882 + 1) σ940 α929 (by omega) (qm_gk (qm_gk (qm_gk (qm_gk (qm_gk g875 (by decide) (Or.inl (by decide))) (by decide) (Or.inl (by decide))) (by decide) (Or.inl (by decide))) (by decide) (Or.inl (by decide))) (by decide) (Or.inl (by decide))) (qm_gk (qm_gk (qm_gk (qm_gk (qm_gk g876 (by decide) (Or.inl (by decide))) (by decide) (Or.inl (by decide))) (by decide) (Or.inl (by decide))) (by decide) (Or.inl (by decide))) (by decide) (Or.inl (by decide))) (qm_gk (qm_gk (qm_gk (qm_gk (qm_gk g877 (by decide) (Or.inl (by decide))) (by decide) (Or.inl (by decide))) (by decide) (Or.inl (by decide))) (by decide) (Or.inl (by decide))) (by decide) (Or.inl (by decide))) (qm_gk (qm_gk (qm_gk (qm_gk (qm_gk g878 (by decide) (Or.inl (by decide))) (by decide) (Or.inl (by decide))) (by decide) (Or.inl (by decide))) (by decide) (Or.inr rfl)) (by decide) (Or.inl (by decide))) (qm_gk (qm_ge _ _ _) (by decide) (Or.inr rfl)) (qm_ge _ _ _) (by omega) (by omega) hI942 hF943 ((congrFun (congrFun e941 86) 6).trans ((hG931.1 86 6 (by decide)).trans ((hG918.1 86 6 (by decide)).trans ((hk887).trans rfl)))) ((congrFun (congrFun e941 86) 11).trans ((hG931.1 86 11 (by decide)).trans ((hG918.1 86 11 (by decide)).trans ((hk888).trans rfl)))) ((congrFun (congrFun e941 86) 16).trans ((hG931.1 86 16 (by decide)).trans ((hG918.1 86 16 (by decide)).trans ((hk889).trans rfl)))) ((congrFun (congrFun e941 86) 22).trans ((hG931.1 86 22 (by decide)).trans ((hG918.1 86 22 (by decide)).trans ((hk890).trans rfl)))) (by have hq0 := qnk_s (qoF (α 99) (qsh (α 87) 32) (σ 86 22) x3) (qcF (qd9 (α 94) (α 95) (σ 86 11)) (α 97) (α 98) (α 100) x1 x2) (i := u882) (by omega); have hq1 := qoF_a (α 99) (qsh (α 87) 32) (σ 86 22) x3 (i := u882) (by omega); have hq2 := (show (qcF (qd9 (α 94) (α 95) (σ 86 11)) (α 97) (α 98) (α 100) x1 x2) ((u882 : Int).toNat) = qcl _ _ _ _ _ from rfl); have hq3 := qcl_m (t := α 100 (u882 : Int).toNat) hp912 hp925 (qd9_r (α 94) (α 95) (σ 86 11) x1 (α 97 (u882 : Int).toNat)).1 (qd9_r (α 94) (α 95) (σ 86 11) x2 (α 98 (u882 : Int).toNat)).1 (qd9_r (α 94) (α 95) (σ 86 11) x2 (α 97 (u882 : Int).toNat)).1 (qd9_r (α 94) (α 95) (σ 86 11) x1 (α 98 (u882 : Int).toNat)).1 (by have := p0 (u882 : Int).toNat (by omega); omega); have hq4 := (show σ940 86 23 = u882 from (congrFun (congrFun e941 86) 23).trans rfl); omega) (by omega)
          · skip
            refine qr_goto 87 rfl rfl ?_
            refine qr_iinc _ 90 rfl g881 (by decide) rfl rfl ?_
            refine qr_goto 7 rfl rfl ?_
            exact ih896 _ u880 (u882 + 1) σ883 α884 (by omega) (qm_gk g875 (by decide) (Or.inl (by decide))) (qm_gk g876 (by decide) (Or.inl (by decide))) (qm_gk g877 (by decide) (Or.inl (by decide))) (qm_gk g878 (by decide) (Or.inl (by decide))) (qm_gk g879 (by decide) (Or.inr rfl)) (qm_ge _ _ _) (by omega) (by omega) hI885 hF886 ((hk887).trans rfl) ((hk888).trans rfl) ((hk889).trans rfl) ((hk890).trans rfl) (by have hq0 := qnk_s (qoF (α 99) (qsh (α 87) 32) (σ 86 22) x3) (qcF (qd9 (α 94) (α 95) (σ 86 11)) (α 97) (α 98) (α 100) x1 x2) (i := u882) (by omega); have hq1 := qoF_a (α 99) (qsh (α 87) 32) (σ 86 22) x3 (i := u882) (by omega); have hq2 := (show (qcF (qd9 (α 94) (α 95) (σ 86 11)) (α 97) (α 98) (α 100) x1 x2) ((u882 : Int).toNat) = qcl _ _ _ _ _ from rfl); have hq3 := (show σ883 86 23 = (σ883 86 23) from rfl); omega) (by omega)
  exact hL895 ((40 - 0 + 1 : Int)).toNat _ 99 0 σ α (by omega) rfl rfl rfl rfl rfl rfl (by omega) (by omega) hI hF0 (rfl) (rfl) (rfl) (rfl) ⟨Or.inl ⟨rfl, rfl⟩, fun _ => rfl⟩ (by omega)
