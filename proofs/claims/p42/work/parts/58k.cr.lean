set_option maxHeartbeats 4000000 in
set_option maxRecDepth 20000 in
theorem sf_18_50x {L : Nat} {xs : Nat → Int} {vb : Bool} {d : Nat} {σ α : Nat → Nat → Int} {κ : Nat → Option Nat} {ρ : Nat} (hI : qI σ α κ ρ) (hb : ∀ j : Nat, (j : Int) < σ 50 3 → 0 ≤ α 51 j ∧ α 51 j ≤ 255) : qm_T (qe L xs vb) (d + 56) 18 [.ref 50] (qw σ α κ ρ) (fun r w' => ∃ σ' α', w' = qw σ' α' κ ρ ∧ qI σ' α' κ ρ ∧ qFr [(50, 4), (50, 5), (50, 6), (50, 7)] [52] σ α σ' α' ∧ ∃ v : Int, r = some (.int (qz v)) ∧ (-1 ≤ v ∧ v ≤ 120) ∧ qRt (σ 50 3) (α 51) v (σ' 50 5) (σ' 50 6) (α' 52)) := by
  have e : qw σ α κ ρ = qc (qw σ α κ ρ) 50 (σ 50 3) (σ 50 4) (σ 50 5) (σ 50 6) (σ 50 7) (fun j => (qz (α 51 j)).toInt) (α 52) := by
    unfold qc
    rw [← qzf_can (α 51)]
    rfl
  have hl : 0 ≤ σ 50 3 ∧ σ 50 3 ≤ 120 := hI.1 50 3
  have ht : ∀ j : Nat, (j : Int) < σ 50 3 → (qz (α 51 j)).toInt = α 51 j := fun j hj => qz_ti (by have := hb j hj; omega)
  rw [e]
  refine qr_mono (spx_lines (a := 50) (t := fun j => (qz (α 51 j)).toInt) ⟨by decide, Nat.le_of_ble_eq_true rfl⟩ (fun j => qz_rng _) (fun j hj => by show 0 ≤ (qz (α 51 j)).toInt ∧ (qz (α 51 j)).toInt ≤ 255; rw [ht j hj]; exact hb j hj) hl) ?_
  rintro r w' ⟨v, at2, sz2, nm2, sk2, cd2, rfl, rfl, h1, hq⟩
  refine ⟨qw_s (qw_s (qw_s (qw_s σ 50 4 at2) 50 5 sz2) 50 6 nm2) 50 7 sk2, qw_r α 52 (fun j => (qz (cd2 j)).toInt), ?_, ?_, ?_, v, rfl, by omega, ?_⟩
  · unfold qc
    rw [← qzf_can (α 51), qzf_can cd2]
    rfl
  · refine qI_rw ?_ 52 _ rfl (fun j _ => qz_rng _)
    refine qI_s ?_ 50 7 rfl (show 0 ≤ sk2 ∧ sk2 ≤ 1 by omega)
    refine qI_s ?_ 50 6 rfl (show -2147483648 ≤ nm2 ∧ nm2 ≤ 2147483647 by omega)
    refine qI_s ?_ 50 5 rfl (show 0 ≤ sz2 ∧ sz2 ≤ 122 by omega)
    exact qI_s hI 50 4 rfl (show 0 ≤ at2 ∧ at2 ≤ 120 by omega)
  · refine qFr_r ?_ 52 _ (by decide)
    refine qFr_s ?_ 50 7 _ (by decide)
    refine qFr_s ?_ 50 6 _ (by decide)
    refine qFr_s ?_ 50 5 _ (by decide)
    exact qFr_s (qFr_rf _ _ _ _) 50 4 _ (by decide)
  · show qRt (σ 50 3) (α 51) v sz2 nm2 (fun j => (qz (cd2 j)).toInt)
    rcases hq with hq | hq
    · refine qRt_cg ht (fun k q1 q2 => ?_) (Or.inl hq)
      have := hq.2.2.2.2 k q1 q2
      exact qz_ti (by omega)
    · exact Or.inr ⟨hq.1, fun N => by rw [← qtx_W_cg ht N]; exact hq.2 N⟩
set_option maxHeartbeats 4000000 in
set_option maxRecDepth 20000 in
theorem sf_18_54x {L : Nat} {xs : Nat → Int} {vb : Bool} {d : Nat} {σ α : Nat → Nat → Int} {κ : Nat → Option Nat} {ρ : Nat} (hI : qI σ α κ ρ) (hb : ∀ j : Nat, (j : Int) < σ 54 3 → 0 ≤ α 55 j ∧ α 55 j ≤ 255) : qm_T (qe L xs vb) (d + 56) 18 [.ref 54] (qw σ α κ ρ) (fun r w' => ∃ σ' α', w' = qw σ' α' κ ρ ∧ qI σ' α' κ ρ ∧ qFr [(54, 4), (54, 5), (54, 6), (54, 7)] [56] σ α σ' α' ∧ ∃ v : Int, r = some (.int (qz v)) ∧ (-1 ≤ v ∧ v ≤ 120) ∧ qRt (σ 54 3) (α 55) v (σ' 54 5) (σ' 54 6) (α' 56)) := by
  have e : qw σ α κ ρ = qc (qw σ α κ ρ) 54 (σ 54 3) (σ 54 4) (σ 54 5) (σ 54 6) (σ 54 7) (fun j => (qz (α 55 j)).toInt) (α 56) := by
    unfold qc
    rw [← qzf_can (α 55)]
    rfl
  have hl : 0 ≤ σ 54 3 ∧ σ 54 3 ≤ 120 := hI.1 54 3
  have ht : ∀ j : Nat, (j : Int) < σ 54 3 → (qz (α 55 j)).toInt = α 55 j := fun j hj => qz_ti (by have := hb j hj; omega)
  rw [e]
  refine qr_mono (spx_lines (a := 54) (t := fun j => (qz (α 55 j)).toInt) ⟨by decide, Nat.le_of_ble_eq_true rfl⟩ (fun j => qz_rng _) (fun j hj => by show 0 ≤ (qz (α 55 j)).toInt ∧ (qz (α 55 j)).toInt ≤ 255; rw [ht j hj]; exact hb j hj) hl) ?_
  rintro r w' ⟨v, at2, sz2, nm2, sk2, cd2, rfl, rfl, h1, hq⟩
  refine ⟨qw_s (qw_s (qw_s (qw_s σ 54 4 at2) 54 5 sz2) 54 6 nm2) 54 7 sk2, qw_r α 56 (fun j => (qz (cd2 j)).toInt), ?_, ?_, ?_, v, rfl, by omega, ?_⟩
  · unfold qc
    rw [← qzf_can (α 55), qzf_can cd2]
    rfl
  · refine qI_rw ?_ 56 _ rfl (fun j _ => qz_rng _)
    refine qI_s ?_ 54 7 rfl (show 0 ≤ sk2 ∧ sk2 ≤ 1 by omega)
    refine qI_s ?_ 54 6 rfl (show -2147483648 ≤ nm2 ∧ nm2 ≤ 2147483647 by omega)
    refine qI_s ?_ 54 5 rfl (show 0 ≤ sz2 ∧ sz2 ≤ 122 by omega)
    exact qI_s hI 54 4 rfl (show 0 ≤ at2 ∧ at2 ≤ 120 by omega)
  · refine qFr_r ?_ 56 _ (by decide)
    refine qFr_s ?_ 54 7 _ (by decide)
    refine qFr_s ?_ 54 6 _ (by decide)
    refine qFr_s ?_ 54 5 _ (by decide)
    exact qFr_s (qFr_rf _ _ _ _) 54 4 _ (by decide)
  · show qRt (σ 54 3) (α 55) v sz2 nm2 (fun j => (qz (cd2 j)).toInt)
    rcases hq with hq | hq
    · refine qRt_cg ht (fun k q1 q2 => ?_) (Or.inl hq)
      have := hq.2.2.2.2 k q1 q2
      exact qz_ti (by omega)
    · exact Or.inr ⟨hq.1, fun N => by rw [← qtx_W_cg ht N]; exact hq.2 N⟩
set_option maxHeartbeats 4000000 in
set_option maxRecDepth 20000 in
theorem sf_18_82x {L : Nat} {xs : Nat → Int} {vb : Bool} {d : Nat} {σ α : Nat → Nat → Int} {κ : Nat → Option Nat} {ρ : Nat} (hI : qI σ α κ ρ) (hb : ∀ j : Nat, (j : Int) < σ 82 3 → 0 ≤ α 83 j ∧ α 83 j ≤ 255) : qm_T (qe L xs vb) (d + 56) 18 [.ref 82] (qw σ α κ ρ) (fun r w' => ∃ σ' α', w' = qw σ' α' κ ρ ∧ qI σ' α' κ ρ ∧ qFr [(82, 4), (82, 5), (82, 6), (82, 7)] [84] σ α σ' α' ∧ ∃ v : Int, r = some (.int (qz v)) ∧ (-1 ≤ v ∧ v ≤ 120) ∧ qRt (σ 82 3) (α 83) v (σ' 82 5) (σ' 82 6) (α' 84)) := by
  have e : qw σ α κ ρ = qc (qw σ α κ ρ) 82 (σ 82 3) (σ 82 4) (σ 82 5) (σ 82 6) (σ 82 7) (fun j => (qz (α 83 j)).toInt) (α 84) := by
    unfold qc
    rw [← qzf_can (α 83)]
    rfl
  have hl : 0 ≤ σ 82 3 ∧ σ 82 3 ≤ 120 := hI.1 82 3
  have ht : ∀ j : Nat, (j : Int) < σ 82 3 → (qz (α 83 j)).toInt = α 83 j := fun j hj => qz_ti (by have := hb j hj; omega)
  rw [e]
  refine qr_mono (spx_lines (a := 82) (t := fun j => (qz (α 83 j)).toInt) ⟨by decide, Nat.le_of_ble_eq_true rfl⟩ (fun j => qz_rng _) (fun j hj => by show 0 ≤ (qz (α 83 j)).toInt ∧ (qz (α 83 j)).toInt ≤ 255; rw [ht j hj]; exact hb j hj) hl) ?_
  rintro r w' ⟨v, at2, sz2, nm2, sk2, cd2, rfl, rfl, h1, hq⟩
  refine ⟨qw_s (qw_s (qw_s (qw_s σ 82 4 at2) 82 5 sz2) 82 6 nm2) 82 7 sk2, qw_r α 84 (fun j => (qz (cd2 j)).toInt), ?_, ?_, ?_, v, rfl, by omega, ?_⟩
  · unfold qc
    rw [← qzf_can (α 83), qzf_can cd2]
    rfl
  · refine qI_rw ?_ 84 _ rfl (fun j _ => qz_rng _)
    refine qI_s ?_ 82 7 rfl (show 0 ≤ sk2 ∧ sk2 ≤ 1 by omega)
    refine qI_s ?_ 82 6 rfl (show -2147483648 ≤ nm2 ∧ nm2 ≤ 2147483647 by omega)
    refine qI_s ?_ 82 5 rfl (show 0 ≤ sz2 ∧ sz2 ≤ 122 by omega)
    exact qI_s hI 82 4 rfl (show 0 ≤ at2 ∧ at2 ≤ 120 by omega)
  · refine qFr_r ?_ 84 _ (by decide)
    refine qFr_s ?_ 82 7 _ (by decide)
    refine qFr_s ?_ 82 6 _ (by decide)
    refine qFr_s ?_ 82 5 _ (by decide)
    exact qFr_s (qFr_rf _ _ _ _) 82 4 _ (by decide)
  · show qRt (σ 82 3) (α 83) v sz2 nm2 (fun j => (qz (cd2 j)).toInt)
    rcases hq with hq | hq
    · refine qRt_cg ht (fun k q1 q2 => ?_) (Or.inl hq)
      have := hq.2.2.2.2 k q1 q2
      exact qz_ti (by omega)
    · exact Or.inr ⟨hq.1, fun N => by rw [← qtx_W_cg ht N]; exact hq.2 N⟩

set_option maxHeartbeats 4000000 in
set_option maxRecDepth 20000 in
/-- OneRoof$Custom.read -/
theorem sf_86_50_81x {L : Nat} {xs : Nat → Int} {vb : Bool} {d : Nat} {σ α : Nat → Nat → Int} {κ : Nat → Option Nat} {ρ : Nat} {x2 : Int} (hI : qI σ α κ ρ) (r2 : 0 ≤ x2 ∧ x2 ≤ 120) (p0 : ∀ j : Nat, (j : Int) < x2 → 0 ≤ α 81 j ∧ α 81 j ≤ 255) : qm_T (qe L xs vb) (d + 57) 86 [.ref 50, .ref 81, .int (qz x2)] (qw σ α κ ρ) (fun r w' => ∃ σ' α', w' = qw σ' α' κ ρ ∧ qI σ' α' κ ρ ∧ qFr [(50, 3), (50, 4), (50, 5), (50, 6), (50, 7)] [51, 52] σ α σ' α' ∧ ∃ v : Int, r = some (.int (qz v)) ∧ ((-1) ≤ v ∧ v ≤ 120) ∧ qRt x2 (α 81) v (σ' 50 5) (σ' 50 6) (α' 52)) := by
  refine qr_start (d := d + 56) qv_e86 (Nat.le_of_ble_eq_true rfl) ?_
  show qr_W (qe L xs vb) (d + 56) qx_e86 _ (0, [(0, .ref 50), (1, .ref 81), (2, .int (qz x2))], [], _, 0, 0)
  have hF0 := qFr_rf [(50, 3), (50, 4), (50, 5), (50, 6), (50, 7)] [51, 52] σ α
  have hz50_3 : 0 ≤ σ 50 3 ∧ σ 50 3 ≤ 120 := hI.1 50 3
  refine qr_aload_n 1 rfl rfl rfl ?_
  refine qr_iload_n 2 rfl rfl rfl ?_
  refine qr_aload_n 3 rfl rfl rfl ?_
  refine qr_alen 4 rfl rfl (by first | exact Or.inl (by decide) | exact Or.inr (Or.inl rfl) | exact Or.inr (Or.inr (Or.inl rfl)) | exact Or.inr (Or.inr (Or.inr (Or.inl rfl)))) rfl ?_
  refine qy_v 120 rfl ?_
  refine qr_callN 7 rfl rfl rfl (sf_12 (d := d + 55) hI (by omega) (by omega)) ?_
  rintro _ _ ⟨rfl, v1, rfl, hv1, hp2⟩
  show qr_W (qe L xs vb) (d + 56) qx_e86 _ (7, _, [.int (qz v1), .ref 50], qw σ α κ ρ, 0, 0)
  refine qr_aload_n 8 rfl rfl rfl ?_
  refine qr_get 11 rfl rfl rfl (by decide) rfl ?_
  refine qr_alen 12 rfl rfl (by first | exact Or.inl (by decide) | exact Or.inr (Or.inl rfl) | exact Or.inr (Or.inr (Or.inl rfl)) | exact Or.inr (Or.inr (Or.inr (Or.inl rfl)))) rfl ?_
  refine qy_v 120 rfl ?_
  refine qr_callN 15 rfl rfl rfl (sf_12 (d := d + 55) hI (by omega) (by omega)) ?_
  rintro _ _ ⟨rfl, v3, rfl, hv3, hp4⟩
  show qr_W (qe L xs vb) (d + 56) qx_e86 _ (15, _, [.int (qz v3), .ref 50], qw σ α κ ρ, 0, 0)
  refine qr_put 18 rfl (by decide) rfl (Nat.le_of_ble_eq_true rfl) (Nat.le_of_ble_eq_true rfl) (Or.inl rfl) (qr_fitI rfl _) rfl ?_
  refine qy_wS (qw_s σ 50 3 v3) rfl (fun σ5 e6 => ?_)
  have hI7 : qI σ5 α κ ρ := by rw [e6]; exact qI_s hI 50 3 rfl (show 0 ≤ v3 ∧ v3 ≤ 120 by omega)
  have hF8 : qFr [(50, 3), (50, 4), (50, 5), (50, 6), (50, 7)] [51, 52] σ α σ5 α := by rw [e6]; exact qFr_s hF0 50 3 _ (by decide)
  refine qr_aload_n 19 rfl rfl rfl ?_
  refine qr_iconst 20 rfl rfl ?_
  refine qr_aload_n 21 rfl rfl rfl ?_
  refine qr_get 24 rfl rfl rfl (by decide) rfl ?_
  refine qr_iconst 25 rfl rfl ?_
  refine qr_aload_n 26 rfl rfl rfl ?_
  refine qr_get 29 rfl rfl rfl (by decide) rfl ?_
  refine qy_v v3 ((congrFun (congrFun e6 50) 3).trans rfl) ?_
  refine qy_copyi 32 rfl (by decide) (by decide) rfl rfl (by omega) (by omega) (by omega) (by omega) (by omega) (by decide) (by decide) rfl ?_
  refine qy_wA (qw_r α 51 (va_cpy (α 81) (α 51) (0 : Int).toNat (0 : Int).toNat (v3 : Int).toNat)) rfl (fun α9 e10 => ?_)
  have hI11 : qI σ5 α9 κ ρ := by rw [e10]; exact qI_cpy hI7 81 51 rfl rfl (show _ ≤ 120 by omega)
  have hF12 : qFr [(50, 3), (50, 4), (50, 5), (50, 6), (50, 7)] [51, 52] σ α σ5 α9 := by rw [e10]; exact qFr_r hF8 51 _ (by decide)
  refine qr_aload_n 33 rfl rfl rfl ?_
  refine qr_callN 36 rfl rfl rfl (sf_18_50x (d := d + 0) hI11 (fun j hj => by have hw : σ5 50 3 = v3 := (congrFun (congrFun e6 50) 3).trans rfl; rw [show α9 51 j = α 81 j from (congrFun ((congrFun e10 51).trans qw_r_eq) j).trans (by unfold va_cpy; rw [if_pos (by omega)]; congr 1; omega)]; exact p0 j (by omega))) ?_
  rintro _ _ ⟨σ15, α16, rfl, hI17, hG18, v13, rfl, hv13, hx14⟩
  have hF19 : qFr [(50, 3), (50, 4), (50, 5), (50, 6), (50, 7)] [51, 52] σ α σ15 α16 := qFr_t hF12 hG18 (by decide) (by decide)
  show qr_W (qe L xs vb) (d + 56) qx_e86 _ (36, _, [.int (qz v13)], qw σ15 α16 κ ρ, 0, 0)
  refine qr_retI rfl rfl (by decide) (by decide) ?_
  exact ⟨_, _, rfl, hI17, hF19, v13, rfl, by omega, (by have hw : σ5 50 3 = v3 := (congrFun (congrFun e6 50) 3).trans rfl; have hq := hx14; rw [show σ5 50 3 = x2 by omega] at hq; exact qRt_cg (fun j hj => (congrFun ((congrFun e10 51).trans qw_r_eq) j).trans (by unfold va_cpy; rw [if_pos (by omega)]; congr 1; omega)) (fun k q1 q2 => rfl) hq)⟩

set_option maxHeartbeats 4000000 in
set_option maxRecDepth 20000 in
/-- OneRoof$Custom.read -/
theorem sf_86_54_81x {L : Nat} {xs : Nat → Int} {vb : Bool} {d : Nat} {σ α : Nat → Nat → Int} {κ : Nat → Option Nat} {ρ : Nat} {x2 : Int} (hI : qI σ α κ ρ) (r2 : 0 ≤ x2 ∧ x2 ≤ 120) (p0 : ∀ j : Nat, (j : Int) < x2 → 0 ≤ α 81 j ∧ α 81 j ≤ 255) : qm_T (qe L xs vb) (d + 57) 86 [.ref 54, .ref 81, .int (qz x2)] (qw σ α κ ρ) (fun r w' => ∃ σ' α', w' = qw σ' α' κ ρ ∧ qI σ' α' κ ρ ∧ qFr [(54, 3), (54, 4), (54, 5), (54, 6), (54, 7)] [55, 56] σ α σ' α' ∧ ∃ v : Int, r = some (.int (qz v)) ∧ ((-1) ≤ v ∧ v ≤ 120) ∧ qRt x2 (α 81) v (σ' 54 5) (σ' 54 6) (α' 56)) := by
  refine qr_start (d := d + 56) qv_e86 (Nat.le_of_ble_eq_true rfl) ?_
  show qr_W (qe L xs vb) (d + 56) qx_e86 _ (0, [(0, .ref 54), (1, .ref 81), (2, .int (qz x2))], [], _, 0, 0)
  have hF0 := qFr_rf [(54, 3), (54, 4), (54, 5), (54, 6), (54, 7)] [55, 56] σ α
  have hz54_3 : 0 ≤ σ 54 3 ∧ σ 54 3 ≤ 120 := hI.1 54 3
  refine qr_aload_n 1 rfl rfl rfl ?_
  refine qr_iload_n 2 rfl rfl rfl ?_
  refine qr_aload_n 3 rfl rfl rfl ?_
  refine qr_alen 4 rfl rfl (by first | exact Or.inl (by decide) | exact Or.inr (Or.inl rfl) | exact Or.inr (Or.inr (Or.inl rfl)) | exact Or.inr (Or.inr (Or.inr (Or.inl rfl)))) rfl ?_
  refine qy_v 120 rfl ?_
  refine qr_callN 7 rfl rfl rfl (sf_12 (d := d + 55) hI (by omega) (by omega)) ?_
  rintro _ _ ⟨rfl, v1, rfl, hv1, hp2⟩
  show qr_W (qe L xs vb) (d + 56) qx_e86 _ (7, _, [.int (qz v1), .ref 54], qw σ α κ ρ, 0, 0)
  refine qr_aload_n 8 rfl rfl rfl ?_
  refine qr_get 11 rfl rfl rfl (by decide) rfl ?_
  refine qr_alen 12 rfl rfl (by first | exact Or.inl (by decide) | exact Or.inr (Or.inl rfl) | exact Or.inr (Or.inr (Or.inl rfl)) | exact Or.inr (Or.inr (Or.inr (Or.inl rfl)))) rfl ?_
  refine qy_v 120 rfl ?_
  refine qr_callN 15 rfl rfl rfl (sf_12 (d := d + 55) hI (by omega) (by omega)) ?_
  rintro _ _ ⟨rfl, v3, rfl, hv3, hp4⟩
  show qr_W (qe L xs vb) (d + 56) qx_e86 _ (15, _, [.int (qz v3), .ref 54], qw σ α κ ρ, 0, 0)
  refine qr_put 18 rfl (by decide) rfl (Nat.le_of_ble_eq_true rfl) (Nat.le_of_ble_eq_true rfl) (Or.inl rfl) (qr_fitI rfl _) rfl ?_
  refine qy_wS (qw_s σ 54 3 v3) rfl (fun σ5 e6 => ?_)
  have hI7 : qI σ5 α κ ρ := by rw [e6]; exact qI_s hI 54 3 rfl (show 0 ≤ v3 ∧ v3 ≤ 120 by omega)
  have hF8 : qFr [(54, 3), (54, 4), (54, 5), (54, 6), (54, 7)] [55, 56] σ α σ5 α := by rw [e6]; exact qFr_s hF0 54 3 _ (by decide)
  refine qr_aload_n 19 rfl rfl rfl ?_
  refine qr_iconst 20 rfl rfl ?_
  refine qr_aload_n 21 rfl rfl rfl ?_
  refine qr_get 24 rfl rfl rfl (by decide) rfl ?_
  refine qr_iconst 25 rfl rfl ?_
  refine qr_aload_n 26 rfl rfl rfl ?_
  refine qr_get 29 rfl rfl rfl (by decide) rfl ?_
  refine qy_v v3 ((congrFun (congrFun e6 54) 3).trans rfl) ?_
  refine qy_copyi 32 rfl (by decide) (by decide) rfl rfl (by omega) (by omega) (by omega) (by omega) (by omega) (by decide) (by decide) rfl ?_
  refine qy_wA (qw_r α 55 (va_cpy (α 81) (α 55) (0 : Int).toNat (0 : Int).toNat (v3 : Int).toNat)) rfl (fun α9 e10 => ?_)
  have hI11 : qI σ5 α9 κ ρ := by rw [e10]; exact qI_cpy hI7 81 55 rfl rfl (show _ ≤ 120 by omega)
  have hF12 : qFr [(54, 3), (54, 4), (54, 5), (54, 6), (54, 7)] [55, 56] σ α σ5 α9 := by rw [e10]; exact qFr_r hF8 55 _ (by decide)
  refine qr_aload_n 33 rfl rfl rfl ?_
  refine qr_callN 36 rfl rfl rfl (sf_18_54x (d := d + 0) hI11 (fun j hj => by have hw : σ5 54 3 = v3 := (congrFun (congrFun e6 54) 3).trans rfl; rw [show α9 55 j = α 81 j from (congrFun ((congrFun e10 55).trans qw_r_eq) j).trans (by unfold va_cpy; rw [if_pos (by omega)]; congr 1; omega)]; exact p0 j (by omega))) ?_
  rintro _ _ ⟨σ15, α16, rfl, hI17, hG18, v13, rfl, hv13, hx14⟩
  have hF19 : qFr [(54, 3), (54, 4), (54, 5), (54, 6), (54, 7)] [55, 56] σ α σ15 α16 := qFr_t hF12 hG18 (by decide) (by decide)
  show qr_W (qe L xs vb) (d + 56) qx_e86 _ (36, _, [.int (qz v13)], qw σ15 α16 κ ρ, 0, 0)
  refine qr_retI rfl rfl (by decide) (by decide) ?_
  exact ⟨_, _, rfl, hI17, hF19, v13, rfl, by omega, (by have hw : σ5 54 3 = v3 := (congrFun (congrFun e6 54) 3).trans rfl; have hq := hx14; rw [show σ5 54 3 = x2 by omega] at hq; exact qRt_cg (fun j hj => (congrFun ((congrFun e10 55).trans qw_r_eq) j).trans (by unfold va_cpy; rw [if_pos (by omega)]; congr 1; omega)) (fun k q1 q2 => rfl) hq)⟩

set_option maxHeartbeats 4000000 in
set_option maxRecDepth 20000 in
/-- OneRoof$Custom.read -/
theorem sf_86_82_81x {L : Nat} {xs : Nat → Int} {vb : Bool} {d : Nat} {σ α : Nat → Nat → Int} {κ : Nat → Option Nat} {ρ : Nat} {x2 : Int} (hI : qI σ α κ ρ) (r2 : 0 ≤ x2 ∧ x2 ≤ 120) (p0 : ∀ j : Nat, (j : Int) < x2 → 0 ≤ α 81 j ∧ α 81 j ≤ 255) : qm_T (qe L xs vb) (d + 57) 86 [.ref 82, .ref 81, .int (qz x2)] (qw σ α κ ρ) (fun r w' => ∃ σ' α', w' = qw σ' α' κ ρ ∧ qI σ' α' κ ρ ∧ qFr [(82, 3), (82, 4), (82, 5), (82, 6), (82, 7)] [83, 84] σ α σ' α' ∧ ∃ v : Int, r = some (.int (qz v)) ∧ ((-1) ≤ v ∧ v ≤ 120) ∧ qRt x2 (α 81) v (σ' 82 5) (σ' 82 6) (α' 84)) := by
  refine qr_start (d := d + 56) qv_e86 (Nat.le_of_ble_eq_true rfl) ?_
  show qr_W (qe L xs vb) (d + 56) qx_e86 _ (0, [(0, .ref 82), (1, .ref 81), (2, .int (qz x2))], [], _, 0, 0)
  have hF0 := qFr_rf [(82, 3), (82, 4), (82, 5), (82, 6), (82, 7)] [83, 84] σ α
  have hz82_3 : 0 ≤ σ 82 3 ∧ σ 82 3 ≤ 120 := hI.1 82 3
  refine qr_aload_n 1 rfl rfl rfl ?_
  refine qr_iload_n 2 rfl rfl rfl ?_
  refine qr_aload_n 3 rfl rfl rfl ?_
  refine qr_alen 4 rfl rfl (by first | exact Or.inl (by decide) | exact Or.inr (Or.inl rfl) | exact Or.inr (Or.inr (Or.inl rfl)) | exact Or.inr (Or.inr (Or.inr (Or.inl rfl)))) rfl ?_
  refine qy_v 120 rfl ?_
  refine qr_callN 7 rfl rfl rfl (sf_12 (d := d + 55) hI (by omega) (by omega)) ?_
  rintro _ _ ⟨rfl, v1, rfl, hv1, hp2⟩
  show qr_W (qe L xs vb) (d + 56) qx_e86 _ (7, _, [.int (qz v1), .ref 82], qw σ α κ ρ, 0, 0)
  refine qr_aload_n 8 rfl rfl rfl ?_
  refine qr_get 11 rfl rfl rfl (by decide) rfl ?_
  refine qr_alen 12 rfl rfl (by first | exact Or.inl (by decide) | exact Or.inr (Or.inl rfl) | exact Or.inr (Or.inr (Or.inl rfl)) | exact Or.inr (Or.inr (Or.inr (Or.inl rfl)))) rfl ?_
  refine qy_v 120 rfl ?_
  refine qr_callN 15 rfl rfl rfl (sf_12 (d := d + 55) hI (by omega) (by omega)) ?_
  rintro _ _ ⟨rfl, v3, rfl, hv3, hp4⟩
  show qr_W (qe L xs vb) (d + 56) qx_e86 _ (15, _, [.int (qz v3), .ref 82], qw σ α κ ρ, 0, 0)
  refine qr_put 18 rfl (by decide) rfl (Nat.le_of_ble_eq_true rfl) (Nat.le_of_ble_eq_true rfl) (Or.inl rfl) (qr_fitI rfl _) rfl ?_
  refine qy_wS (qw_s σ 82 3 v3) rfl (fun σ5 e6 => ?_)
  have hI7 : qI σ5 α κ ρ := by rw [e6]; exact qI_s hI 82 3 rfl (show 0 ≤ v3 ∧ v3 ≤ 120 by omega)
  have hF8 : qFr [(82, 3), (82, 4), (82, 5), (82, 6), (82, 7)] [83, 84] σ α σ5 α := by rw [e6]; exact qFr_s hF0 82 3 _ (by decide)
  refine qr_aload_n 19 rfl rfl rfl ?_
  refine qr_iconst 20 rfl rfl ?_
  refine qr_aload_n 21 rfl rfl rfl ?_
  refine qr_get 24 rfl rfl rfl (by decide) rfl ?_
  refine qr_iconst 25 rfl rfl ?_
  refine qr_aload_n 26 rfl rfl rfl ?_
  refine qr_get 29 rfl rfl rfl (by decide) rfl ?_
  refine qy_v v3 ((congrFun (congrFun e6 82) 3).trans rfl) ?_
  refine qy_copyi 32 rfl (by decide) (by decide) rfl rfl (by omega) (by omega) (by omega) (by omega) (by omega) (by decide) (by decide) rfl ?_
  refine qy_wA (qw_r α 83 (va_cpy (α 81) (α 83) (0 : Int).toNat (0 : Int).toNat (v3 : Int).toNat)) rfl (fun α9 e10 => ?_)
  have hI11 : qI σ5 α9 κ ρ := by rw [e10]; exact qI_cpy hI7 81 83 rfl rfl (show _ ≤ 120 by omega)
  have hF12 : qFr [(82, 3), (82, 4), (82, 5), (82, 6), (82, 7)] [83, 84] σ α σ5 α9 := by rw [e10]; exact qFr_r hF8 83 _ (by decide)
  refine qr_aload_n 33 rfl rfl rfl ?_
  refine qr_callN 36 rfl rfl rfl (sf_18_82x (d := d + 0) hI11 (fun j hj => by have hw : σ5 82 3 = v3 := (congrFun (congrFun e6 82) 3).trans rfl; rw [show α9 83 j = α 81 j from (congrFun ((congrFun e10 83).trans qw_r_eq) j).trans (by unfold va_cpy; rw [if_pos (by omega)]; congr 1; omega)]; exact p0 j (by omega))) ?_
  rintro _ _ ⟨σ15, α16, rfl, hI17, hG18, v13, rfl, hv13, hx14⟩
  have hF19 : qFr [(82, 3), (82, 4), (82, 5), (82, 6), (82, 7)] [83, 84] σ α σ15 α16 := qFr_t hF12 hG18 (by decide) (by decide)
  show qr_W (qe L xs vb) (d + 56) qx_e86 _ (36, _, [.int (qz v13)], qw σ15 α16 κ ρ, 0, 0)
  refine qr_retI rfl rfl (by decide) (by decide) ?_
  exact ⟨_, _, rfl, hI17, hF19, v13, rfl, by omega, (by have hw : σ5 82 3 = v3 := (congrFun (congrFun e6 82) 3).trans rfl; have hq := hx14; rw [show σ5 82 3 = x2 by omega] at hq; exact qRt_cg (fun j hj => (congrFun ((congrFun e10 83).trans qw_r_eq) j).trans (by unfold va_cpy; rw [if_pos (by omega)]; congr 1; omega)) (fun k q1 q2 => rfl) hq)⟩
