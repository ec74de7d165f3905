/-! custom: a text read anew, the customs exchanged -/
set_option maxHeartbeats 4000000 in
set_option maxRecDepth 20000 in
theorem sp_lines2 {L : Nat} {xs : Nat → Int} {vb : Bool} {d : Nat} {w : qm_W} {a : Nat} {ln at_ sz nm sk : Int} {t cd : Nat → Int} (hi : qc_in w a) (ht : ∀ j, -2147483648 ≤ t j ∧ t j ≤ 2147483647) (hl : 0 ≤ ln ∧ ln ≤ 120)   : qm_T (qe L xs vb) (d + 56) 18 [.ref a] (qc w a ln at_ sz nm sk t cd) (fun r w' => ∃ (v at2 sz2 nm2 sk2 : Int) (cd2 : Nat → Int), r = some (.int (qz v)) ∧ w' = qc w a ln at2 sz2 nm2 sk2 t cd2 ∧ (0 ≤ at2 ∧ at2 ≤ ln ∧ 0 ≤ sz2 ∧ sz2 ≤ 122 ∧ -2147483648 ≤ nm2 ∧ nm2 ≤ 2147483647 ∧ (sk2 = 0 ∨ sk2 = 1) ∧ -1 ≤ v ∧ v ≤ 120 ∧ (sk2 = 0 → v = -1) ∧ (ln = 0 → sk2 = 1 ∧ v = 0))) := by
  refine qr_start (d := d + 55) qv_e18 (Nat.le_of_ble_eq_true rfl) ?_
  show qr_W (qe L xs vb) (d + 55) qx_e18 _ (0, [(0, .ref a)], [], qc w a ln at_ sz nm sk t cd, 0, 0)
  have loop : ∀ (n : Nat) (i at1 sz1 nm1 sk1 : Int) (cd1 : Nat → Int), (0 ≤ i ∧ i ≤ 121 ∧ 121 - i < n) → (0 ≤ at1 ∧ at1 ≤ ln ∧ 0 ≤ sz1 ∧ sz1 ≤ 122 ∧ -2147483648 ≤ nm1 ∧ nm1 ≤ 2147483647 ∧ (sk1 = 0 ∨ sk1 = 1)) → (ln = 0 → (i = 0 ∧ at1 = 0) ∨ sk1 = 1) → qr_W (qe L xs vb) (d + 55) qx_e18 (fun r w' => ∃ (v at2 sz2 nm2 sk2 : Int) (cd2 : Nat → Int), r = some (.int (qz v)) ∧ w' = qc w a ln at2 sz2 nm2 sk2 t cd2 ∧ (0 ≤ at2 ∧ at2 ≤ ln ∧ 0 ≤ sz2 ∧ sz2 ≤ 122 ∧ -2147483648 ≤ nm2 ∧ nm2 ≤ 2147483647 ∧ (sk2 = 0 ∨ sk2 = 1) ∧ -1 ≤ v ∧ v ≤ 120 ∧ (sk2 = 0 → v = -1) ∧ (ln = 0 → sk2 = 1 ∧ v = 0))) (22, [(1, .int (qz i)), (0, .ref a)], [], qc w a ln at1 sz1 nm1 sk1 t cd1, 0, 0) := by
    intro n
    induction n with
    | zero => intro i at1 sz1 nm1 sk1 cd1 h1 h2 h3; exact absurd h1 (by omega)
    | succ n ih =>
      intro i at1 sz1 nm1 sk1 cd1 h1 h2 h3
      refine qr_iload_n 23 rfl rfl rfl ?_
      refine qr_bipush 25 rfl (by decide) rfl ?_
      refine qr_icmp_gt 72 28 rfl rfl rfl (by omega) (by omega) (fun h1 => ?_) (fun h1 => ?_)
      · skip
        refine qr_aload_n 73 rfl rfl rfl ?_
        refine qr_cget7 hi 76 rfl rfl ?_
        refine qr_if_eq 86 79 rfl rfl rfl (by omega) (fun h2 => ?_) (fun h2 => ?_)
        · skip
          refine qr_iconst 87 rfl rfl ?_
          refine qr_retI rfl rfl (Nat.zero_le _) (Nat.zero_le _) ?_
          exact ⟨_, _, _, _, _, _, rfl, rfl, by omega⟩
        · skip
          refine qr_aload_n 80 rfl rfl rfl ?_
          refine qr_cget4 hi 83 rfl rfl ?_
          refine qr_goto 87 rfl rfl ?_
          refine qr_retI rfl rfl (Nat.zero_le _) (Nat.zero_le _) ?_
          exact ⟨_, _, _, _, _, _, rfl, rfl, by omega⟩
      · skip
        refine qr_aload_n 29 rfl rfl rfl ?_
        refine qr_cget7 hi 32 rfl rfl ?_
        refine qr_if_ne 72 35 rfl rfl rfl (by omega) (fun h3 => ?_) (fun h3 => ?_)
        · skip
          refine qr_aload_n 73 rfl rfl rfl ?_
          refine qr_cget7 hi 76 rfl rfl ?_
          refine qr_if_eq 86 79 rfl rfl rfl (by omega) (fun h4 => ?_) (fun h4 => ?_)
          · skip
            refine qr_iconst 87 rfl rfl ?_
            refine qr_retI rfl rfl (Nat.zero_le _) (Nat.zero_le _) ?_
            exact ⟨_, _, _, _, _, _, rfl, rfl, by omega⟩
          · skip
            refine qr_aload_n 80 rfl rfl rfl ?_
            refine qr_cget4 hi 83 rfl rfl ?_
            refine qr_goto 87 rfl rfl ?_
            refine qr_retI rfl rfl (Nat.zero_le _) (Nat.zero_le _) ?_
            exact ⟨_, _, _, _, _, _, rfl, rfl, by omega⟩
        · skip
          refine qr_aload_n 36 rfl rfl rfl ?_
          refine qr_ccall (as := []) (rest := []) hi 39 rfl rfl (Nat.le_of_ble_eq_true rfl) rfl rfl (sp_line hi ht hl (by omega)) ?_
          rintro _ _ ⟨rfl, at5, sz6, nm7, sk8, cd9, rfl, hb10⟩
          simp only [Option.toList, List.cons_append, List.nil_append]
          refine qr_aload_n 40 rfl rfl rfl ?_
          refine qr_cget7 hi 43 rfl rfl ?_
          refine qr_if_ne 72 46 rfl rfl rfl (by omega) (fun h11 => ?_) (fun h11 => ?_)
          · skip
            refine qr_aload_n 73 rfl rfl rfl ?_
            refine qr_cget7 hi 76 rfl rfl ?_
            refine qr_if_eq 86 79 rfl rfl rfl (by omega) (fun h12 => ?_) (fun h12 => ?_)
            · skip
              refine qr_iconst 87 rfl rfl ?_
              refine qr_retI rfl rfl (Nat.zero_le _) (Nat.zero_le _) ?_
              exact ⟨_, _, _, _, _, _, rfl, rfl, by omega⟩
            · skip
              refine qr_aload_n 80 rfl rfl rfl ?_
              refine qr_cget4 hi 83 rfl rfl ?_
              refine qr_goto 87 rfl rfl ?_
              refine qr_retI rfl rfl (Nat.zero_le _) (Nat.zero_le _) ?_
              exact ⟨_, _, _, _, _, _, rfl, rfl, by omega⟩
          · skip
            refine qr_aload_n 47 rfl rfl rfl ?_
            refine qr_cget4 hi 50 rfl rfl ?_
            refine qr_aload_n 51 rfl rfl rfl ?_
            refine qr_cget3 hi 54 rfl rfl ?_
            refine qr_icmp_lt 60 57 rfl rfl rfl (by omega) (by omega) (fun h13 => ?_) (fun h13 => ?_)
            · skip
              refine qr_aload_n 61 rfl rfl rfl ?_
              refine qr_bipush 63 rfl (by decide) rfl ?_
              refine qr_ccall (as := [.int (qz 59)]) (rest := []) hi 66 rfl rfl (Nat.le_of_ble_eq_true rfl) rfl rfl (sp_pass hi ht hl (by omega) (by omega)) ?_
              rintro _ _ ⟨rfl, at14, sz15, nm16, sk17, cd18, rfl, hb19⟩
              simp only [Option.toList, List.cons_append, List.nil_append]
              refine qr_iincG (fun v20 => [(1, .int (qz v20)), (0, .ref a)]) 69 rfl rfl (by decide) (fun _ => rfl) rfl (fun v20 hv20 => ?_)
              refine qr_goto 22 rfl rfl ?_
              exact ih v20 at14 sz15 nm16 sk17 cd18 (by omega) (by omega) (by omega)
            · skip
              refine qr_goto 72 rfl rfl ?_
              refine qr_aload_n 73 rfl rfl rfl ?_
              refine qr_cget7 hi 76 rfl rfl ?_
              refine qr_if_eq 86 79 rfl rfl rfl (by omega) (fun h21 => ?_) (fun h21 => ?_)
              · skip
                refine qr_iconst 87 rfl rfl ?_
                refine qr_retI rfl rfl (Nat.zero_le _) (Nat.zero_le _) ?_
                exact ⟨_, _, _, _, _, _, rfl, rfl, by omega⟩
              · skip
                refine qr_aload_n 80 rfl rfl rfl ?_
                refine qr_cget4 hi 83 rfl rfl ?_
                refine qr_goto 87 rfl rfl ?_
                refine qr_retI rfl rfl (Nat.zero_le _) (Nat.zero_le _) ?_
                exact ⟨_, _, _, _, _, _, rfl, rfl, by omega⟩
  refine qr_aload_n 1 rfl rfl rfl ?_
  refine qr_iconst 2 rfl rfl ?_
  refine qr_cput4 hi 5 rfl rfl ?_
  refine qr_aload_n 6 rfl rfl rfl ?_
  refine qr_iconst 7 rfl rfl ?_
  refine qr_cput5 hi 10 rfl rfl ?_
  refine qr_aload_n 11 rfl rfl rfl ?_
  refine qr_iconst 12 rfl rfl ?_
  refine qr_cput6 hi 15 rfl rfl ?_
  refine qr_aload_n 16 rfl rfl rfl ?_
  refine qr_iconst 17 rfl rfl ?_
  refine qr_cput7 hi (by omega) 20 rfl rfl ?_
  refine qr_iconst 21 rfl rfl ?_
  refine qr_istore_n [(1, .int (qz 0)), (0, .ref a)] 22 rfl (by decide) rfl rfl ?_
  exact loop 123 0 0 0 0 0 cd (by omega) (by omega) (by omega)
theorem qzf_can (f : Nat → Int) : qzf f = qzf (fun j => (qz (f j)).toInt) := funext fun j => qz_of (qz (f j))
theorem qI_rw {σ α : Nat → Nat → Int} {κ : Nat → Option Nat} {ρ : Nat} (h : qI σ α κ ρ) (a : Nat) (g : Nat → Int) (hsp : [65, 71, 74, 77, 78, 91, 94, 95, 96].contains a = false) (hg : ∀ j, j < (qI_rr a).1 → (qI_rr a).2.1 ≤ g j ∧ g j ≤ (qI_rr a).2.2) : qI σ (qw_r α a g) κ ρ := by
  refine ⟨h.1, fun a' j hj => ?_, h.2.2.1, qIx_r h.2.2.2 a _ hsp⟩
  by_cases h1 : a' = a
  · subst h1
    rw [qw_r_eq]
    exact hg j hj
  · rw [qw_r_ne h1]
    exact h.2.1 a' j hj
theorem qI_sw {σ α : Nat → Nat → Int} {κ : Nat → Option Nat} {ρ : Nat} (h : qI σ α κ ρ) (i x : Nat) (hx : x = 50 ∨ x = 54 ∨ x = 82) : qI σ α (va_up κ i (some ρ)) x := by
  refine ⟨h.1, h.2.1, ⟨?_, ?_, hx⟩, h.2.2.2⟩
  · by_cases e : 0 = i
    · exact ⟨ρ, if_pos e, h.2.2.1.2.2⟩
    · obtain ⟨y, h1, h2⟩ := h.2.2.1.1
      exact ⟨y, (if_neg e).trans h1, h2⟩
  · by_cases e : 1 = i
    · exact ⟨ρ, if_pos e, h.2.2.1.2.2⟩
    · obtain ⟨y, h1, h2⟩ := h.2.2.1.2.1
      exact ⟨y, (if_neg e).trans h1, h2⟩
set_option maxHeartbeats 4000000 in
set_option maxRecDepth 20000 in
theorem sf_18_50 {L : Nat} {xs : Nat → Int} {vb : Bool} {d : Nat} {σ α : Nat → Nat → Int} {κ : Nat → Option Nat} {ρ : Nat} (hI : qI σ α κ ρ) : qm_T (qe L xs vb) (d + 56) 18 [.ref 50] (qw σ α κ ρ) (fun r w' => ∃ σ' α', w' = qw σ' α' κ ρ ∧ qI σ' α' κ ρ ∧ qFr [(50, 4), (50, 5), (50, 6), (50, 7)] [52] σ α σ' α' ∧ ∃ v : Int, r = some (.int (qz v)) ∧ (-1 ≤ v ∧ v ≤ 120)) := by
  have e : qw σ α κ ρ = qc (qw σ α κ ρ) 50 (σ 50 3) (σ 50 4) (σ 50 5) (σ 50 6) (σ 50 7) (fun j => (qz (α 51 j)).toInt) (α 52) := by
    unfold qc
    rw [← qzf_can (α 51)]
    rfl
  have hl : 0 ≤ σ 50 3 ∧ σ 50 3 ≤ 120 := hI.1 50 3
  rw [e]
  refine qr_mono (sp_lines2 (a := 50) ⟨by decide, Nat.le_of_ble_eq_true rfl⟩ (fun j => qz_rng _) hl) ?_
  rintro r w' ⟨v, at2, sz2, nm2, sk2, cd2, rfl, rfl, h1⟩
  refine ⟨qw_s (qw_s (qw_s (qw_s σ 50 4 at2) 50 5 sz2) 50 6 nm2) 50 7 sk2, qw_r α 52 (fun j => (qz (cd2 j)).toInt), ?_, ?_, ?_, v, rfl, by omega⟩
  · unfold qc
    rw [← qzf_can (α 51), qzf_can cd2]
    rfl
  · refine qI_rw ?_ 52 _ rfl (fun j _ => qz_rng _)
    refine qI_s ?_ 50 7 rfl (show 0 ≤ sk2 ∧ sk2 ≤ 1 by omega)
    refine qI_s ?_ 50 6 rfl (show -2147483648 ≤ nm2 ∧ nm2 ≤ 2147483647 by omega)
    refine qI_s ?_ 50 5 rfl (show 0 ≤ sz2 ∧ sz2 ≤ 122 by omega)
    exact qI_s hI 50 4 rfl (show 0 ≤ at2 ∧ at2 ≤ 120 by omega)
  · refine qFr_r ?_ 52 _ (by decide)
    refine qFr_s ?_ 50 7 _ (by decide)
    refine qFr_s ?_ 50 6 _ (by decide)
    refine qFr_s ?_ 50 5 _ (by decide)
    exact qFr_s (qFr_rf _ _ _ _) 50 4 _ (by decide)
set_option maxHeartbeats 4000000 in
set_option maxRecDepth 20000 in
theorem sf_18_54 {L : Nat} {xs : Nat → Int} {vb : Bool} {d : Nat} {σ α : Nat → Nat → Int} {κ : Nat → Option Nat} {ρ : Nat} (hI : qI σ α κ ρ) : qm_T (qe L xs vb) (d + 56) 18 [.ref 54] (qw σ α κ ρ) (fun r w' => ∃ σ' α', w' = qw σ' α' κ ρ ∧ qI σ' α' κ ρ ∧ qFr [(54, 4), (54, 5), (54, 6), (54, 7)] [56] σ α σ' α' ∧ ∃ v : Int, r = some (.int (qz v)) ∧ (-1 ≤ v ∧ v ≤ 120)) := by
  have e : qw σ α κ ρ = qc (qw σ α κ ρ) 54 (σ 54 3) (σ 54 4) (σ 54 5) (σ 54 6) (σ 54 7) (fun j => (qz (α 55 j)).toInt) (α 56) := by
    unfold qc
    rw [← qzf_can (α 55)]
    rfl
  have hl : 0 ≤ σ 54 3 ∧ σ 54 3 ≤ 120 := hI.1 54 3
  rw [e]
  refine qr_mono (sp_lines2 (a := 54) ⟨by decide, Nat.le_of_ble_eq_true rfl⟩ (fun j => qz_rng _) hl) ?_
  rintro r w' ⟨v, at2, sz2, nm2, sk2, cd2, rfl, rfl, h1⟩
  refine ⟨qw_s (qw_s (qw_s (qw_s σ 54 4 at2) 54 5 sz2) 54 6 nm2) 54 7 sk2, qw_r α 56 (fun j => (qz (cd2 j)).toInt), ?_, ?_, ?_, v, rfl, by omega⟩
  · unfold qc
    rw [← qzf_can (α 55), qzf_can cd2]
    rfl
  · refine qI_rw ?_ 56 _ rfl (fun j _ => qz_rng _)
    refine qI_s ?_ 54 7 rfl (show 0 ≤ sk2 ∧ sk2 ≤ 1 by omega)
    refine qI_s ?_ 54 6 rfl (show -2147483648 ≤ nm2 ∧ nm2 ≤ 2147483647 by omega)
    refine qI_s ?_ 54 5 rfl (show 0 ≤ sz2 ∧ sz2 ≤ 122 by omega)
    exact qI_s hI 54 4 rfl (show 0 ≤ at2 ∧ at2 ≤ 120 by omega)
  · refine qFr_r ?_ 56 _ (by decide)
    refine qFr_s ?_ 54 7 _ (by decide)
    refine qFr_s ?_ 54 6 _ (by decide)
    refine qFr_s ?_ 54 5 _ (by decide)
    exact qFr_s (qFr_rf _ _ _ _) 54 4 _ (by decide)
set_option maxHeartbeats 4000000 in
set_option maxRecDepth 20000 in
theorem sf_18_82 {L : Nat} {xs : Nat → Int} {vb : Bool} {d : Nat} {σ α : Nat → Nat → Int} {κ : Nat → Option Nat} {ρ : Nat} (hI : qI σ α κ ρ) : qm_T (qe L xs vb) (d + 56) 18 [.ref 82] (qw σ α κ ρ) (fun r w' => ∃ σ' α', w' = qw σ' α' κ ρ ∧ qI σ' α' κ ρ ∧ qFr [(82, 4), (82, 5), (82, 6), (82, 7)] [84] σ α σ' α' ∧ ∃ v : Int, r = some (.int (qz v)) ∧ (-1 ≤ v ∧ v ≤ 120)) := by
  have e : qw σ α κ ρ = qc (qw σ α κ ρ) 82 (σ 82 3) (σ 82 4) (σ 82 5) (σ 82 6) (σ 82 7) (fun j => (qz (α 83 j)).toInt) (α 84) := by
    unfold qc
    rw [← qzf_can (α 83)]
    rfl
  have hl : 0 ≤ σ 82 3 ∧ σ 82 3 ≤ 120 := hI.1 82 3
  rw [e]
  refine qr_mono (sp_lines2 (a := 82) ⟨by decide, Nat.le_of_ble_eq_true rfl⟩ (fun j => qz_rng _) hl) ?_
  rintro r w' ⟨v, at2, sz2, nm2, sk2, cd2, rfl, rfl, h1⟩
  refine ⟨qw_s (qw_s (qw_s (qw_s σ 82 4 at2) 82 5 sz2) 82 6 nm2) 82 7 sk2, qw_r α 84 (fun j => (qz (cd2 j)).toInt), ?_, ?_, ?_, v, rfl, by omega⟩
  · unfold qc
    rw [← qzf_can (α 83), qzf_can cd2]
    rfl
  · refine qI_rw ?_ 84 _ rfl (fun j _ => qz_rng _)
    refine qI_s ?_ 82 7 rfl (show 0 ≤ sk2 ∧ sk2 ≤ 1 by omega)
    refine qI_s ?_ 82 6 rfl (show -2147483648 ≤ nm2 ∧ nm2 ≤ 2147483647 by omega)
    refine qI_s ?_ 82 5 rfl (show 0 ≤ sz2 ∧ sz2 ≤ 122 by omega)
    exact qI_s hI 82 4 rfl (show 0 ≤ at2 ∧ at2 ≤ 120 by omega)
  · refine qFr_r ?_ 84 _ (by decide)
    refine qFr_s ?_ 82 7 _ (by decide)
    refine qFr_s ?_ 82 6 _ (by decide)
    refine qFr_s ?_ 82 5 _ (by decide)
    exact qFr_s (qFr_rf _ _ _ _) 82 4 _ (by decide)

set_option maxHeartbeats 4000000 in
set_option maxRecDepth 20000 in
/-- OneRoof$Custom.read -/
theorem sf_86_50_81 {L : Nat} {xs : Nat → Int} {vb : Bool} {d : Nat} {σ α : Nat → Nat → Int} {κ : Nat → Option Nat} {ρ : Nat} {x2 : Int} (hI : qI σ α κ ρ) (r2 : 0 ≤ x2 ∧ x2 ≤ 120) : qm_T (qe L xs vb) (d + 57) 86 [.ref 50, .ref 81, .int (qz x2)] (qw σ α κ ρ) (fun r w' => ∃ σ' α', w' = qw σ' α' κ ρ ∧ qI σ' α' κ ρ ∧ qFr [(50, 3), (50, 4), (50, 5), (50, 6), (50, 7)] [51, 52] σ α σ' α' ∧ ∃ v : Int, r = some (.int (qz v)) ∧ ((-1) ≤ v ∧ v ≤ 120)) := by
  refine qr_start (d := d + 56) qv_e86 (Nat.le_of_ble_eq_true rfl) ?_
  show qr_W (qe L xs vb) (d + 56) qx_e86 _ (0, [(0, .ref 50), (1, .ref 81), (2, .int (qz x2))], [], _, 0, 0)
  have hF0 := qFr_rf [(50, 3), (50, 4), (50, 5), (50, 6), (50, 7)] [51, 52] σ α
  refine qr_aload_n 1 rfl rfl rfl ?_
  refine qr_iload_n 2 rfl rfl rfl ?_
  refine qr_aload_n 3 rfl rfl rfl ?_
  refine qr_alen 4 rfl rfl (by first | exact Or.inl (by decide) | exact Or.inr (Or.inl rfl) | exact Or.inr (Or.inr (Or.inl rfl)) | exact Or.inr (Or.inr (Or.inr (Or.inl rfl)))) rfl ?_
  refine qy_v 120 rfl ?_
  refine qr_callN 7 rfl rfl rfl (sf_12 (d := d + 55) hI (by omega) (by omega)) ?_
  rintro _ _ ⟨rfl, v1, rfl, hv1, hp2⟩
  show qr_W (qe L xs vb) (d + 56) qx_e86 _ (7, _, [.int (qz v1), .ref 50], qw σ α κ ρ, 0, 0)
  refine qr_aload_n 8 rfl rfl rfl ?_
  refine qr_get 11 rfl rfl rfl (by decide) rfl ?_
  refine qr_alen 12 rfl rfl (by first | exact Or.inl (by decide) | exact Or.inr (Or.inl rfl) | exact Or.inr (Or.inr (Or.inl rfl)) | exact Or.inr (Or.inr (Or.inr (Or.inl rfl)))) rfl ?_
  refine qy_v 120 rfl ?_
  refine qr_callN 15 rfl rfl rfl (sf_12 (d := d + 55) hI (by omega) (by omega)) ?_
  rintro _ _ ⟨rfl, v3, rfl, hv3, hp4⟩
  show qr_W (qe L xs vb) (d + 56) qx_e86 _ (15, _, [.int (qz v3), .ref 50], qw σ α κ ρ, 0, 0)
  refine qr_put 18 rfl (by decide) rfl (Nat.le_of_ble_eq_true rfl) (Nat.le_of_ble_eq_true rfl) (Or.inl rfl) (qr_fitI rfl _) rfl ?_
  refine qy_wS (qw_s σ 50 3 v3) rfl (fun σ5 e6 => ?_)
  have hI7 : qI σ5 α κ ρ := by rw [e6]; exact qI_s hI 50 3 rfl (show 0 ≤ v3 ∧ v3 ≤ 120 by omega)
  have hF8 : qFr [(50, 3), (50, 4), (50, 5), (50, 6), (50, 7)] [51, 52] σ α σ5 α := by rw [e6]; exact qFr_s hF0 50 3 _ (by decide)
  refine qr_aload_n 19 rfl rfl rfl ?_
  refine qr_iconst 20 rfl rfl ?_
  refine qr_aload_n 21 rfl rfl rfl ?_
  refine qr_get 24 rfl rfl rfl (by decide) rfl ?_
  refine qr_iconst 25 rfl rfl ?_
  refine qr_aload_n 26 rfl rfl rfl ?_
  refine qr_get 29 rfl rfl rfl (by decide) rfl ?_
  refine qy_v v3 ((congrFun (congrFun e6 50) 3).trans rfl) ?_
  refine qy_copyi 32 rfl (by decide) (by decide) rfl rfl (by omega) (by omega) (by omega) (by omega) (by omega) (by decide) (by decide) rfl ?_
  refine qy_wA (qw_r α 51 (va_cpy (α 81) (α 51) (0 : Int).toNat (0 : Int).toNat (v3 : Int).toNat)) rfl (fun α9 e10 => ?_)
  have hI11 : qI σ5 α9 κ ρ := by rw [e10]; exact qI_cpy hI7 81 51 rfl rfl (show _ ≤ 120 by omega)
  have hF12 : qFr [(50, 3), (50, 4), (50, 5), (50, 6), (50, 7)] [51, 52] σ α σ5 α9 := by rw [e10]; exact qFr_r hF8 51 _ (by decide)
  refine qr_aload_n 33 rfl rfl rfl ?_
  refine qr_callN 36 rfl rfl rfl (sf_18_50 (d := d + 0) hI11 ) ?_
  rintro _ _ ⟨σ14, α15, rfl, hI16, hG17, v13, rfl, hv13⟩
  have hF18 : qFr [(50, 3), (50, 4), (50, 5), (50, 6), (50, 7)] [51, 52] σ α σ14 α15 := qFr_t hF12 hG17 (by decide) (by decide)
  show qr_W (qe L xs vb) (d + 56) qx_e86 _ (36, _, [.int (qz v13)], qw σ14 α15 κ ρ, 0, 0)
  refine qr_retI rfl rfl (by decide) (by decide) ?_
  exact ⟨_, _, rfl, hI16, hF18, v13, rfl, by omega⟩

set_option maxHeartbeats 4000000 in
set_option maxRecDepth 20000 in
/-- OneRoof$Custom.read -/
theorem sf_86_54_81 {L : Nat} {xs : Nat → Int} {vb : Bool} {d : Nat} {σ α : Nat → Nat → Int} {κ : Nat → Option Nat} {ρ : Nat} {x2 : Int} (hI : qI σ α κ ρ) (r2 : 0 ≤ x2 ∧ x2 ≤ 120) : qm_T (qe L xs vb) (d + 57) 86 [.ref 54, .ref 81, .int (qz x2)] (qw σ α κ ρ) (fun r w' => ∃ σ' α', w' = qw σ' α' κ ρ ∧ qI σ' α' κ ρ ∧ qFr [(54, 3), (54, 4), (54, 5), (54, 6), (54, 7)] [55, 56] σ α σ' α' ∧ ∃ v : Int, r = some (.int (qz v)) ∧ ((-1) ≤ v ∧ v ≤ 120)) := by
  refine qr_start (d := d + 56) qv_e86 (Nat.le_of_ble_eq_true rfl) ?_
  show qr_W (qe L xs vb) (d + 56) qx_e86 _ (0, [(0, .ref 54), (1, .ref 81), (2, .int (qz x2))], [], _, 0, 0)
  have hF0 := qFr_rf [(54, 3), (54, 4), (54, 5), (54, 6), (54, 7)] [55, 56] σ α
  refine qr_aload_n 1 rfl rfl rfl ?_
  refine qr_iload_n 2 rfl rfl rfl ?_
  refine qr_aload_n 3 rfl rfl rfl ?_
  refine qr_alen 4 rfl rfl (by first | exact Or.inl (by decide) | exact Or.inr (Or.inl rfl) | exact Or.inr (Or.inr (Or.inl rfl)) | exact Or.inr (Or.inr (Or.inr (Or.inl rfl)))) rfl ?_
  refine qy_v 120 rfl ?_
  refine qr_callN 7 rfl rfl rfl (sf_12 (d := d + 55) hI (by omega) (by omega)) ?_
  rintro _ _ ⟨rfl, v1, rfl, hv1, hp2⟩
  show qr_W (qe L xs vb) (d + 56) qx_e86 _ (7, _, [.int (qz v1), .ref 54], qw σ α κ ρ, 0, 0)
  refine qr_aload_n 8 rfl rfl rfl ?_
  refine qr_get 11 rfl rfl rfl (by decide) rfl ?_
  refine qr_alen 12 rfl rfl (by first | exact Or.inl (by decide) | exact Or.inr (Or.inl rfl) | exact Or.inr (Or.inr (Or.inl rfl)) | exact Or.inr (Or.inr (Or.inr (Or.inl rfl)))) rfl ?_
  refine qy_v 120 rfl ?_
  refine qr_callN 15 rfl rfl rfl (sf_12 (d := d + 55) hI (by omega) (by omega)) ?_
  rintro _ _ ⟨rfl, v3, rfl, hv3, hp4⟩
  show qr_W (qe L xs vb) (d + 56) qx_e86 _ (15, _, [.int (qz v3), .ref 54], qw σ α κ ρ, 0, 0)
  refine qr_put 18 rfl (by decide) rfl (Nat.le_of_ble_eq_true rfl) (Nat.le_of_ble_eq_true rfl) (Or.inl rfl) (qr_fitI rfl _) rfl ?_
  refine qy_wS (qw_s σ 54 3 v3) rfl (fun σ5 e6 => ?_)
  have hI7 : qI σ5 α κ ρ := by rw [e6]; exact qI_s hI 54 3 rfl (show 0 ≤ v3 ∧ v3 ≤ 120 by omega)
  have hF8 : qFr [(54, 3), (54, 4), (54, 5), (54, 6), (54, 7)] [55, 56] σ α σ5 α := by rw [e6]; exact qFr_s hF0 54 3 _ (by decide)
  refine qr_aload_n 19 rfl rfl rfl ?_
  refine qr_iconst 20 rfl rfl ?_
  refine qr_aload_n 21 rfl rfl rfl ?_
  refine qr_get 24 rfl rfl rfl (by decide) rfl ?_
  refine qr_iconst 25 rfl rfl ?_
  refine qr_aload_n 26 rfl rfl rfl ?_
  refine qr_get 29 rfl rfl rfl (by decide) rfl ?_
  refine qy_v v3 ((congrFun (congrFun e6 54) 3).trans rfl) ?_
  refine qy_copyi 32 rfl (by decide) (by decide) rfl rfl (by omega) (by omega) (by omega) (by omega) (by omega) (by decide) (by decide) rfl ?_
  refine qy_wA (qw_r α 55 (va_cpy (α 81) (α 55) (0 : Int).toNat (0 : Int).toNat (v3 : Int).toNat)) rfl (fun α9 e10 => ?_)
  have hI11 : qI σ5 α9 κ ρ := by rw [e10]; exact qI_cpy hI7 81 55 rfl rfl (show _ ≤ 120 by omega)
  have hF12 : qFr [(54, 3), (54, 4), (54, 5), (54, 6), (54, 7)] [55, 56] σ α σ5 α9 := by rw [e10]; exact qFr_r hF8 55 _ (by decide)
  refine qr_aload_n 33 rfl rfl rfl ?_
  refine qr_callN 36 rfl rfl rfl (sf_18_54 (d := d + 0) hI11 ) ?_
  rintro _ _ ⟨σ14, α15, rfl, hI16, hG17, v13, rfl, hv13⟩
  have hF18 : qFr [(54, 3), (54, 4), (54, 5), (54, 6), (54, 7)] [55, 56] σ α σ14 α15 := qFr_t hF12 hG17 (by decide) (by decide)
  show qr_W (qe L xs vb) (d + 56) qx_e86 _ (36, _, [.int (qz v13)], qw σ14 α15 κ ρ, 0, 0)
  refine qr_retI rfl rfl (by decide) (by decide) ?_
  exact ⟨_, _, rfl, hI16, hF18, v13, rfl, by omega⟩

set_option maxHeartbeats 4000000 in
set_option maxRecDepth 20000 in
/-- OneRoof$Custom.read -/
theorem sf_86_82_81 {L : Nat} {xs : Nat → Int} {vb : Bool} {d : Nat} {σ α : Nat → Nat → Int} {κ : Nat → Option Nat} {ρ : Nat} {x2 : Int} (hI : qI σ α κ ρ) (r2 : 0 ≤ x2 ∧ x2 ≤ 120) : qm_T (qe L xs vb) (d + 57) 86 [.ref 82, .ref 81, .int (qz x2)] (qw σ α κ ρ) (fun r w' => ∃ σ' α', w' = qw σ' α' κ ρ ∧ qI σ' α' κ ρ ∧ qFr [(82, 3), (82, 4), (82, 5), (82, 6), (82, 7)] [83, 84] σ α σ' α' ∧ ∃ v : Int, r = some (.int (qz v)) ∧ ((-1) ≤ v ∧ v ≤ 120)) := by
  refine qr_start (d := d + 56) qv_e86 (Nat.le_of_ble_eq_true rfl) ?_
  show qr_W (qe L xs vb) (d + 56) qx_e86 _ (0, [(0, .ref 82), (1, .ref 81), (2, .int (qz x2))], [], _, 0, 0)
  have hF0 := qFr_rf [(82, 3), (82, 4), (82, 5), (82, 6), (82, 7)] [83, 84] σ α
  refine qr_aload_n 1 rfl rfl rfl ?_
  refine qr_iload_n 2 rfl rfl rfl ?_
  refine qr_aload_n 3 rfl rfl rfl ?_
  refine qr_alen 4 rfl rfl (by first | exact Or.inl (by decide) | exact Or.inr (Or.inl rfl) | exact Or.inr (Or.inr (Or.inl rfl)) | exact Or.inr (Or.inr (Or.inr (Or.inl rfl)))) rfl ?_
  refine qy_v 120 rfl ?_
  refine qr_callN 7 rfl rfl rfl (sf_12 (d := d + 55) hI (by omega) (by omega)) ?_
  rintro _ _ ⟨rfl, v1, rfl, hv1, hp2⟩
  show qr_W (qe L xs vb) (d + 56) qx_e86 _ (7, _, [.int (qz v1), .ref 82], qw σ α κ ρ, 0, 0)
  refine qr_aload_n 8 rfl rfl rfl ?_
  refine qr_get 11 rfl rfl rfl (by decide) rfl ?_
  refine qr_alen 12 rfl rfl (by first | exact Or.inl (by decide) | exact Or.inr (Or.inl rfl) | exact Or.inr (Or.inr (Or.inl rfl)) | exact Or.inr (Or.inr (Or.inr (Or.inl rfl)))) rfl ?_
  refine qy_v 120 rfl ?_
  refine qr_callN 15 rfl rfl rfl (sf_12 (d := d + 55) hI (by omega) (by omega)) ?_
  rintro _ _ ⟨rfl, v3, rfl, hv3, hp4⟩
  show qr_W (qe L xs vb) (d + 56) qx_e86 _ (15, _, [.int (qz v3), .ref 82], qw σ α κ ρ, 0, 0)
  refine qr_put 18 rfl (by decide) rfl (Nat.le_of_ble_eq_true rfl) (Nat.le_of_ble_eq_true rfl) (Or.inl rfl) (qr_fitI rfl _) rfl ?_
  refine qy_wS (qw_s σ 82 3 v3) rfl (fun σ5 e6 => ?_)
  have hI7 : qI σ5 α κ ρ := by rw [e6]; exact qI_s hI 82 3 rfl (show 0 ≤ v3 ∧ v3 ≤ 120 by omega)
  have hF8 : qFr [(82, 3), (82, 4), (82, 5), (82, 6), (82, 7)] [83, 84] σ α σ5 α := by rw [e6]; exact qFr_s hF0 82 3 _ (by decide)
  refine qr_aload_n 19 rfl rfl rfl ?_
  refine qr_iconst 20 rfl rfl ?_
  refine qr_aload_n 21 rfl rfl rfl ?_
  refine qr_get 24 rfl rfl rfl (by decide) rfl ?_
  refine qr_iconst 25 rfl rfl ?_
  refine qr_aload_n 26 rfl rfl rfl ?_
  refine qr_get 29 rfl rfl rfl (by decide) rfl ?_
  refine qy_v v3 ((congrFun (congrFun e6 82) 3).trans rfl) ?_
  refine qy_copyi 32 rfl (by decide) (by decide) rfl rfl (by omega) (by omega) (by omega) (by omega) (by omega) (by decide) (by decide) rfl ?_
  refine qy_wA (qw_r α 83 (va_cpy (α 81) (α 83) (0 : Int).toNat (0 : Int).toNat (v3 : Int).toNat)) rfl (fun α9 e10 => ?_)
  have hI11 : qI σ5 α9 κ ρ := by rw [e10]; exact qI_cpy hI7 81 83 rfl rfl (show _ ≤ 120 by omega)
  have hF12 : qFr [(82, 3), (82, 4), (82, 5), (82, 6), (82, 7)] [83, 84] σ α σ5 α9 := by rw [e10]; exact qFr_r hF8 83 _ (by decide)
  refine qr_aload_n 33 rfl rfl rfl ?_
  refine qr_callN 36 rfl rfl rfl (sf_18_82 (d := d + 0) hI11 ) ?_
  rintro _ _ ⟨σ14, α15, rfl, hI16, hG17, v13, rfl, hv13⟩
  have hF18 : qFr [(82, 3), (82, 4), (82, 5), (82, 6), (82, 7)] [83, 84] σ α σ14 α15 := qFr_t hF12 hG17 (by decide) (by decide)
  show qr_W (qe L xs vb) (d + 56) qx_e86 _ (36, _, [.int (qz v13)], qw σ14 α15 κ ρ, 0, 0)
  refine qr_retI rfl rfl (by decide) (by decide) ?_
  exact ⟨_, _, rfl, hI16, hF18, v13, rfl, by omega⟩

set_option maxHeartbeats 4000000 in
set_option maxRecDepth 20000 in
/-- OneRoof.custom -/
theorem sf_85_16q50 {L : Nat} {xs : Nat → Int} {vb : Bool} {d : Nat} {σ α : Nat → Nat → Int} {κ : Nat → Option Nat} {x1 : Int} (hI : qI σ α κ 50) (r1 : (-2147483648) ≤ x1 ∧ x1 ≤ 2147483647) : qm_T (qe L xs vb) (d + 58) 85 [.ref 16, .int (qz x1)] (qw σ α κ 50) (fun r w' => ∃ σ' α' κ' ρ', w' = qw σ' α' κ' ρ' ∧ qI σ' α' κ' ρ' ∧ qFr [(16, 15), (50, 3), (50, 4), (50, 5), (50, 6), (50, 7), (54, 3), (54, 4), (54, 5), (54, 6), (54, 7), (82, 3), (82, 4), (82, 5), (82, 6), (82, 7)] [51, 52, 55, 56, 83, 84] σ α σ' α' ∧ ∃ v : Int, r = some (.int (qz v)) ∧ (-2147483648 ≤ v ∧ v ≤ 2147483647) ∧ (((x1 = 0 ∨ x1 = 1) ∧ σ' 16 15 = 0) ∨ (¬ (x1 = 0 ∨ x1 = 1) ∧ σ' 16 15 = σ 16 15))) := by
  refine qr_start (d := d + 57) qv_e85 (Nat.le_of_ble_eq_true rfl) ?_
  show qr_W (qe L xs vb) (d + 57) qx_e85 _ (0, [(0, .ref 16), (1, .int (qz x1))], [], _, 0, 0)
  have hF0 := qFr_rf [(16, 15), (50, 3), (50, 4), (50, 5), (50, 6), (50, 7), (54, 3), (54, 4), (54, 5), (54, 6), (54, 7), (82, 3), (82, 4), (82, 5), (82, 6), (82, 7)] [51, 52, 55, 56, 83, 84] σ α
  have hz16_15 : 0 ≤ σ 16 15 ∧ σ 16 15 ≤ 120 := hI.1 16 15
  refine qr_iload_n 1 rfl rfl rfl ?_
  refine qr_if_eq 11 4 rfl rfl rfl (by omega) (fun h1 => ?_) (fun h1 => ?_)
  · skip
    refine qr_aload_n 12 rfl rfl rfl ?_
    refine qr_get 15 rfl rfl rfl (by decide) rfl ?_
    refine qr_aload_n 16 rfl rfl rfl ?_
    refine qr_get 19 rfl rfl rfl (by decide) rfl ?_
    refine qr_aload_n 20 rfl rfl rfl ?_
    refine qr_get 23 rfl rfl rfl (by decide) rfl ?_
    refine qr_callN 26 rfl rfl rfl (sf_86_50_81 (d := d + 0) hI (by omega)) ?_
    rintro _ _ ⟨σ3, α4, rfl, hI5, hG6, v2, rfl, hv2⟩
    have hF7 : qFr [(16, 15), (50, 3), (50, 4), (50, 5), (50, 6), (50, 7), (54, 3), (54, 4), (54, 5), (54, 6), (54, 7), (82, 3), (82, 4), (82, 5), (82, 6), (82, 7)] [51, 52, 55, 56, 83, 84] σ α σ3 α4 := qFr_t hF0 hG6 (by decide) (by decide)
    show qr_W (qe L xs vb) (d + 57) qx_e85 _ (26, _, [.int (qz v2)], qw σ3 α4 κ 50, 0, 0)
    refine qr_istore_n _ 27 rfl (by decide) rfl rfl ?_
    refine qr_aload_n 28 rfl rfl rfl ?_
    refine qr_iconst 29 rfl rfl ?_
    refine qr_put 32 rfl (by decide) rfl (Nat.le_of_ble_eq_true rfl) (Nat.le_of_ble_eq_true rfl) (Or.inl rfl) (qr_fitI rfl _) rfl ?_
    refine qy_wS (qw_s σ3 16 15 0) rfl (fun σ8 e9 => ?_)
    have hI10 : qI σ8 α4 κ 50 := by rw [e9]; exact qI_s hI5 16 15 rfl (show 0 ≤ 0 ∧ 0 ≤ 120 by omega)
    have hF11 : qFr [(16, 15), (50, 3), (50, 4), (50, 5), (50, 6), (50, 7), (54, 3), (54, 4), (54, 5), (54, 6), (54, 7), (82, 3), (82, 4), (82, 5), (82, 6), (82, 7)] [51, 52, 55, 56, 83, 84] σ α σ8 α4 := by rw [e9]; exact qFr_s hF7 16 15 _ (by decide)
    refine qr_iload_n 33 rfl rfl rfl ?_
    refine qr_if_lt 41 36 rfl rfl rfl (by omega) (fun h12 => ?_) (fun h12 => ?_)
    · skip
      refine qr_aload_n 42 rfl rfl rfl ?_
      refine qr_get 45 rfl rfl rfl (by decide) rfl ?_
      refine qr_iload_n 46 rfl rfl rfl ?_
      obtain ⟨c13, hc14, hq15⟩ := qI_k hI10 (y := x1) (by omega)
      refine qr_aaload 47 rfl (by decide) rfl (by omega) (by decide) hc14 rfl ?_
      rcases hq15 with rfl | rfl | rfl
      · skip
        refine qr_astore_n _ 48 rfl (by decide) rfl rfl ?_
        refine qr_aload_n 49 rfl rfl rfl ?_
        refine qr_get 52 rfl rfl rfl (by decide) rfl ?_
        refine qr_iload_n 53 rfl rfl rfl ?_
        refine qr_aload_n 54 rfl rfl rfl ?_
        refine qr_get 57 rfl rfl rfl (by decide) rfl ?_
        refine qr_aastore 58 rfl (by decide) (by decide) rfl rfl (by omega) (by decide) rfl ?_
        show qr_W (qe L xs vb) (d + 57) qx_e85 _ (58, _, [], qw σ8 α4 (va_up κ (x1 : Int).toNat (some 50)) 50, 0, 0)
        refine qr_aload_n 59 rfl rfl rfl ?_
        refine qr_aload_n 60 rfl rfl rfl ?_
        refine qr_put 63 rfl (by decide) rfl (Nat.le_of_ble_eq_true rfl) (Nat.le_of_ble_eq_true rfl) (Or.inl rfl) (qr_fitR (Or.inl ⟨_, rfl⟩) _) rfl ?_
        show qr_W (qe L xs vb) (d + 57) qx_e85 _ (63, _, [], qw σ8 α4 (va_up κ (x1 : Int).toNat (some 50)) 50, 0, 0)
        refine qr_iconst 64 rfl rfl ?_
        have hw16 : σ8 16 15 = 0 := (congrFun (congrFun e9 16) 15).trans rfl
        refine qr_retI rfl rfl (by decide) (by decide) ?_
        exact ⟨_, _, _, _, rfl, qI_sw hI10 (x1 : Int).toNat 50 (Or.inl rfl), hF11, 1, rfl, by omega, by omega⟩
      · skip
        refine qr_astore_n _ 48 rfl (by decide) rfl rfl ?_
        refine qr_aload_n 49 rfl rfl rfl ?_
        refine qr_get 52 rfl rfl rfl (by decide) rfl ?_
        refine qr_iload_n 53 rfl rfl rfl ?_
        refine qr_aload_n 54 rfl rfl rfl ?_
        refine qr_get 57 rfl rfl rfl (by decide) rfl ?_
        refine qr_aastore 58 rfl (by decide) (by decide) rfl rfl (by omega) (by decide) rfl ?_
        show qr_W (qe L xs vb) (d + 57) qx_e85 _ (58, _, [], qw σ8 α4 (va_up κ (x1 : Int).toNat (some 50)) 50, 0, 0)
        refine qr_aload_n 59 rfl rfl rfl ?_
        refine qr_aload_n 60 rfl rfl rfl ?_
        refine qr_put 63 rfl (by decide) rfl (Nat.le_of_ble_eq_true rfl) (Nat.le_of_ble_eq_true rfl) (Or.inl rfl) (qr_fitR (Or.inl ⟨_, rfl⟩) _) rfl ?_
        show qr_W (qe L xs vb) (d + 57) qx_e85 _ (63, _, [], qw σ8 α4 (va_up κ (x1 : Int).toNat (some 50)) 54, 0, 0)
        refine qr_iconst 64 rfl rfl ?_
        have hw17 : σ8 16 15 = 0 := (congrFun (congrFun e9 16) 15).trans rfl
        refine qr_retI rfl rfl (by decide) (by decide) ?_
        exact ⟨_, _, _, _, rfl, qI_sw hI10 (x1 : Int).toNat 54 (Or.inr (Or.inl rfl)), hF11, 1, rfl, by omega, by omega⟩
      · skip
        refine qr_astore_n _ 48 rfl (by decide) rfl rfl ?_
        refine qr_aload_n 49 rfl rfl rfl ?_
        refine qr_get 52 rfl rfl rfl (by decide) rfl ?_
        refine qr_iload_n 53 rfl rfl rfl ?_
        refine qr_aload_n 54 rfl rfl rfl ?_
        refine qr_get 57 rfl rfl rfl (by decide) rfl ?_
        refine qr_aastore 58 rfl (by decide) (by decide) rfl rfl (by omega) (by decide) rfl ?_
        show qr_W (qe L xs vb) (d + 57) qx_e85 _ (58, _, [], qw σ8 α4 (va_up κ (x1 : Int).toNat (some 50)) 50, 0, 0)
        refine qr_aload_n 59 rfl rfl rfl ?_
        refine qr_aload_n 60 rfl rfl rfl ?_
        refine qr_put 63 rfl (by decide) rfl (Nat.le_of_ble_eq_true rfl) (Nat.le_of_ble_eq_true rfl) (Or.inl rfl) (qr_fitR (Or.inl ⟨_, rfl⟩) _) rfl ?_
        show qr_W (qe L xs vb) (d + 57) qx_e85 _ (63, _, [], qw σ8 α4 (va_up κ (x1 : Int).toNat (some 50)) 82, 0, 0)
        refine qr_iconst 64 rfl rfl ?_
        have hw18 : σ8 16 15 = 0 := (congrFun (congrFun e9 16) 15).trans rfl
        refine qr_retI rfl rfl (by decide) (by decide) ?_
        exact ⟨_, _, _, _, rfl, qI_sw hI10 (x1 : Int).toNat 82 (Or.inr (Or.inr rfl)), hF11, 1, rfl, by omega, by omega⟩
    · skip
      refine qr_bipush 38 rfl (by decide) rfl ?_
      refine qr_iload_n 39 rfl rfl rfl ?_
      refine qr_isub 40 rfl rfl ?_
      have hw19 : σ8 16 15 = 0 := (congrFun (congrFun e9 16) 15).trans rfl
      refine qr_retI rfl rfl (by decide) (by decide) ?_
      exact ⟨_, _, _, _, rfl, hI10, hF11, ((-100) - v2), rfl, by omega, by omega⟩
  · skip
    refine qr_iload_n 5 rfl rfl rfl ?_
    refine qr_iconst 6 rfl rfl ?_
    refine qr_icmp_eq 11 9 rfl rfl rfl (by omega) (by omega) (fun h20 => ?_) (fun h20 => ?_)
    · skip
      refine qr_aload_n 12 rfl rfl rfl ?_
      refine qr_get 15 rfl rfl rfl (by decide) rfl ?_
      refine qr_aload_n 16 rfl rfl rfl ?_
      refine qr_get 19 rfl rfl rfl (by decide) rfl ?_
      refine qr_aload_n 20 rfl rfl rfl ?_
      refine qr_get 23 rfl rfl rfl (by decide) rfl ?_
      refine qr_callN 26 rfl rfl rfl (sf_86_50_81 (d := d + 0) hI (by omega)) ?_
      rintro _ _ ⟨σ22, α23, rfl, hI24, hG25, v21, rfl, hv21⟩
      have hF26 : qFr [(16, 15), (50, 3), (50, 4), (50, 5), (50, 6), (50, 7), (54, 3), (54, 4), (54, 5), (54, 6), (54, 7), (82, 3), (82, 4), (82, 5), (82, 6), (82, 7)] [51, 52, 55, 56, 83, 84] σ α σ22 α23 := qFr_t hF0 hG25 (by decide) (by decide)
      show qr_W (qe L xs vb) (d + 57) qx_e85 _ (26, _, [.int (qz v21)], qw σ22 α23 κ 50, 0, 0)
      refine qr_istore_n _ 27 rfl (by decide) rfl rfl ?_
      refine qr_aload_n 28 rfl rfl rfl ?_
      refine qr_iconst 29 rfl rfl ?_
      refine qr_put 32 rfl (by decide) rfl (Nat.le_of_ble_eq_true rfl) (Nat.le_of_ble_eq_true rfl) (Or.inl rfl) (qr_fitI rfl _) rfl ?_
      refine qy_wS (qw_s σ22 16 15 0) rfl (fun σ27 e28 => ?_)
      have hI29 : qI σ27 α23 κ 50 := by rw [e28]; exact qI_s hI24 16 15 rfl (show 0 ≤ 0 ∧ 0 ≤ 120 by omega)
      have hF30 : qFr [(16, 15), (50, 3), (50, 4), (50, 5), (50, 6), (50, 7), (54, 3), (54, 4), (54, 5), (54, 6), (54, 7), (82, 3), (82, 4), (82, 5), (82, 6), (82, 7)] [51, 52, 55, 56, 83, 84] σ α σ27 α23 := by rw [e28]; exact qFr_s hF26 16 15 _ (by decide)
      refine qr_iload_n 33 rfl rfl rfl ?_
      refine qr_if_lt 41 36 rfl rfl rfl (by omega) (fun h31 => ?_) (fun h31 => ?_)
      · skip
        refine qr_aload_n 42 rfl rfl rfl ?_
        refine qr_get 45 rfl rfl rfl (by decide) rfl ?_
        refine qr_iload_n 46 rfl rfl rfl ?_
        obtain ⟨c32, hc33, hq34⟩ := qI_k hI29 (y := x1) (by omega)
        refine qr_aaload 47 rfl (by decide) rfl (by omega) (by decide) hc33 rfl ?_
        rcases hq34 with rfl | rfl | rfl
        · skip
          refine qr_astore_n _ 48 rfl (by decide) rfl rfl ?_
          refine qr_aload_n 49 rfl rfl rfl ?_
          refine qr_get 52 rfl rfl rfl (by decide) rfl ?_
          refine qr_iload_n 53 rfl rfl rfl ?_
          refine qr_aload_n 54 rfl rfl rfl ?_
          refine qr_get 57 rfl rfl rfl (by decide) rfl ?_
          refine qr_aastore 58 rfl (by decide) (by decide) rfl rfl (by omega) (by decide) rfl ?_
          show qr_W (qe L xs vb) (d + 57) qx_e85 _ (58, _, [], qw σ27 α23 (va_up κ (x1 : Int).toNat (some 50)) 50, 0, 0)
          refine qr_aload_n 59 rfl rfl rfl ?_
          refine qr_aload_n 60 rfl rfl rfl ?_
          refine qr_put 63 rfl (by decide) rfl (Nat.le_of_ble_eq_true rfl) (Nat.le_of_ble_eq_true rfl) (Or.inl rfl) (qr_fitR (Or.inl ⟨_, rfl⟩) _) rfl ?_
          show qr_W (qe L xs vb) (d + 57) qx_e85 _ (63, _, [], qw σ27 α23 (va_up κ (x1 : Int).toNat (some 50)) 50, 0, 0)
          refine qr_iconst 64 rfl rfl ?_
          have hw35 : σ27 16 15 = 0 := (congrFun (congrFun e28 16) 15).trans rfl
          refine qr_retI rfl rfl (by decide) (by decide) ?_
          exact ⟨_, _, _, _, rfl, qI_sw hI29 (x1 : Int).toNat 50 (Or.inl rfl), hF30, 1, rfl, by omega, by omega⟩
        · skip
          refine qr_astore_n _ 48 rfl (by decide) rfl rfl ?_
          refine qr_aload_n 49 rfl rfl rfl ?_
          refine qr_get 52 rfl rfl rfl (by decide) rfl ?_
          refine qr_iload_n 53 rfl rfl rfl ?_
          refine qr_aload_n 54 rfl rfl rfl ?_
          refine qr_get 57 rfl rfl rfl (by decide) rfl ?_
          refine qr_aastore 58 rfl (by decide) (by decide) rfl rfl (by omega) (by decide) rfl ?_
          show qr_W (qe L xs vb) (d + 57) qx_e85 _ (58, _, [], qw σ27 α23 (va_up κ (x1 : Int).toNat (some 50)) 50, 0, 0)
          refine qr_aload_n 59 rfl rfl rfl ?_
          refine qr_aload_n 60 rfl rfl rfl ?_
          refine qr_put 63 rfl (by decide) rfl (Nat.le_of_ble_eq_true rfl) (Nat.le_of_ble_eq_true rfl) (Or.inl rfl) (qr_fitR (Or.inl ⟨_, rfl⟩) _) rfl ?_
          show qr_W (qe L xs vb) (d + 57) qx_e85 _ (63, _, [], qw σ27 α23 (va_up κ (x1 : Int).toNat (some 50)) 54, 0, 0)
          refine qr_iconst 64 rfl rfl ?_
          have hw36 : σ27 16 15 = 0 := (congrFun (congrFun e28 16) 15).trans rfl
          refine qr_retI rfl rfl (by decide) (by decide) ?_
          exact ⟨_, _, _, _, rfl, qI_sw hI29 (x1 : Int).toNat 54 (Or.inr (Or.inl rfl)), hF30, 1, rfl, by omega, by omega⟩
        · skip
          refine qr_astore_n _ 48 rfl (by decide) rfl rfl ?_
          refine qr_aload_n 49 rfl rfl rfl ?_
          refine qr_get 52 rfl rfl rfl (by decide) rfl ?_
          refine qr_iload_n 53 rfl rfl rfl ?_
          refine qr_aload_n 54 rfl rfl rfl ?_
          refine qr_get 57 rfl rfl rfl (by decide) rfl ?_
          refine qr_aastore 58 rfl (by decide) (by decide) rfl rfl (by omega) (by decide) rfl ?_
          show qr_W (qe L xs vb) (d + 57) qx_e85 _ (58, _, [], qw σ27 α23 (va_up κ (x1 : Int).toNat (some 50)) 50, 0, 0)
          refine qr_aload_n 59 rfl rfl rfl ?_
          refine qr_aload_n 60 rfl rfl rfl ?_
          refine qr_put 63 rfl (by decide) rfl (Nat.le_of_ble_eq_true rfl) (Nat.le_of_ble_eq_true rfl) (Or.inl rfl) (qr_fitR (Or.inl ⟨_, rfl⟩) _) rfl ?_
          show qr_W (qe L xs vb) (d + 57) qx_e85 _ (63, _, [], qw σ27 α23 (va_up κ (x1 : Int).toNat (some 50)) 82, 0, 0)
          refine qr_iconst 64 rfl rfl ?_
          have hw37 : σ27 16 15 = 0 := (congrFun (congrFun e28 16) 15).trans rfl
          refine qr_retI rfl rfl (by decide) (by decide) ?_
          exact ⟨_, _, _, _, rfl, qI_sw hI29 (x1 : Int).toNat 82 (Or.inr (Or.inr rfl)), hF30, 1, rfl, by omega, by omega⟩
      · skip
        refine qr_bipush 38 rfl (by decide) rfl ?_
        refine qr_iload_n 39 rfl rfl rfl ?_
        refine qr_isub 40 rfl rfl ?_
        have hw38 : σ27 16 15 = 0 := (congrFun (congrFun e28 16) 15).trans rfl
        refine qr_retI rfl rfl (by decide) (by decide) ?_
        exact ⟨_, _, _, _, rfl, hI29, hF30, ((-100) - v21), rfl, by omega, by omega⟩
    · skip
      refine qr_iconst 10 rfl rfl ?_
      have hw39 : σ 16 15 = (σ 16 15) := rfl
      refine qr_retI rfl rfl (by decide) (by decide) ?_
      exact ⟨_, _, _, _, rfl, hI, hF0, (-1), rfl, by omega, by omega⟩

set_option maxHeartbeats 4000000 in
set_option maxRecDepth 20000 in
/-- OneRoof.custom -/
theorem sf_85_16q54 {L : Nat} {xs : Nat → Int} {vb : Bool} {d : Nat} {σ α : Nat → Nat → Int} {κ : Nat → Option Nat} {x1 : Int} (hI : qI σ α κ 54) (r1 : (-2147483648) ≤ x1 ∧ x1 ≤ 2147483647) : qm_T (qe L xs vb) (d + 58) 85 [.ref 16, .int (qz x1)] (qw σ α κ 54) (fun r w' => ∃ σ' α' κ' ρ', w' = qw σ' α' κ' ρ' ∧ qI σ' α' κ' ρ' ∧ qFr [(16, 15), (50, 3), (50, 4), (50, 5), (50, 6), (50, 7), (54, 3), (54, 4), (54, 5), (54, 6), (54, 7), (82, 3), (82, 4), (82, 5), (82, 6), (82, 7)] [51, 52, 55, 56, 83, 84] σ α σ' α' ∧ ∃ v : Int, r = some (.int (qz v)) ∧ (-2147483648 ≤ v ∧ v ≤ 2147483647) ∧ (((x1 = 0 ∨ x1 = 1) ∧ σ' 16 15 = 0) ∨ (¬ (x1 = 0 ∨ x1 = 1) ∧ σ' 16 15 = σ 16 15))) := by
  refine qr_start (d := d + 57) qv_e85 (Nat.le_of_ble_eq_true rfl) ?_
  show qr_W (qe L xs vb) (d + 57) qx_e85 _ (0, [(0, .ref 16), (1, .int (qz x1))], [], _, 0, 0)
  have hF0 := qFr_rf [(16, 15), (50, 3), (50, 4), (50, 5), (50, 6), (50, 7), (54, 3), (54, 4), (54, 5), (54, 6), (54, 7), (82, 3), (82, 4), (82, 5), (82, 6), (82, 7)] [51, 52, 55, 56, 83, 84] σ α
  have hz16_15 : 0 ≤ σ 16 15 ∧ σ 16 15 ≤ 120 := hI.1 16 15
  refine qr_iload_n 1 rfl rfl rfl ?_
  refine qr_if_eq 11 4 rfl rfl rfl (by omega) (fun h1 => ?_) (fun h1 => ?_)
  · skip
    refine qr_aload_n 12 rfl rfl rfl ?_
    refine qr_get 15 rfl rfl rfl (by decide) rfl ?_
    refine qr_aload_n 16 rfl rfl rfl ?_
    refine qr_get 19 rfl rfl rfl (by decide) rfl ?_
    refine qr_aload_n 20 rfl rfl rfl ?_
    refine qr_get 23 rfl rfl rfl (by decide) rfl ?_
    refine qr_callN 26 rfl rfl rfl (sf_86_54_81 (d := d + 0) hI (by omega)) ?_
    rintro _ _ ⟨σ3, α4, rfl, hI5, hG6, v2, rfl, hv2⟩
    have hF7 : qFr [(16, 15), (50, 3), (50, 4), (50, 5), (50, 6), (50, 7), (54, 3), (54, 4), (54, 5), (54, 6), (54, 7), (82, 3), (82, 4), (82, 5), (82, 6), (82, 7)] [51, 52, 55, 56, 83, 84] σ α σ3 α4 := qFr_t hF0 hG6 (by decide) (by decide)
    show qr_W (qe L xs vb) (d + 57) qx_e85 _ (26, _, [.int (qz v2)], qw σ3 α4 κ 54, 0, 0)
    refine qr_istore_n _ 27 rfl (by decide) rfl rfl ?_
    refine qr_aload_n 28 rfl rfl rfl ?_
    refine qr_iconst 29 rfl rfl ?_
    refine qr_put 32 rfl (by decide) rfl (Nat.le_of_ble_eq_true rfl) (Nat.le_of_ble_eq_true rfl) (Or.inl rfl) (qr_fitI rfl _) rfl ?_
    refine qy_wS (qw_s σ3 16 15 0) rfl (fun σ8 e9 => ?_)
    have hI10 : qI σ8 α4 κ 54 := by rw [e9]; exact qI_s hI5 16 15 rfl (show 0 ≤ 0 ∧ 0 ≤ 120 by omega)
    have hF11 : qFr [(16, 15), (50, 3), (50, 4), (50, 5), (50, 6), (50, 7), (54, 3), (54, 4), (54, 5), (54, 6), (54, 7), (82, 3), (82, 4), (82, 5), (82, 6), (82, 7)] [51, 52, 55, 56, 83, 84] σ α σ8 α4 := by rw [e9]; exact qFr_s hF7 16 15 _ (by decide)
    refine qr_iload_n 33 rfl rfl rfl ?_
    refine qr_if_lt 41 36 rfl rfl rfl (by omega) (fun h12 => ?_) (fun h12 => ?_)
    · skip
      refine qr_aload_n 42 rfl rfl rfl ?_
      refine qr_get 45 rfl rfl rfl (by decide) rfl ?_
      refine qr_iload_n 46 rfl rfl rfl ?_
      obtain ⟨c13, hc14, hq15⟩ := qI_k hI10 (y := x1) (by omega)
      refine qr_aaload 47 rfl (by decide) rfl (by omega) (by decide) hc14 rfl ?_
      rcases hq15 with rfl | rfl | rfl
      · skip
        refine qr_astore_n _ 48 rfl (by decide) rfl rfl ?_
        refine qr_aload_n 49 rfl rfl rfl ?_
        refine qr_get 52 rfl rfl rfl (by decide) rfl ?_
        refine qr_iload_n 53 rfl rfl rfl ?_
        refine qr_aload_n 54 rfl rfl rfl ?_
        refine qr_get 57 rfl rfl rfl (by decide) rfl ?_
        refine qr_aastore 58 rfl (by decide) (by decide) rfl rfl (by omega) (by decide) rfl ?_
        show qr_W (qe L xs vb) (d + 57) qx_e85 _ (58, _, [], qw σ8 α4 (va_up κ (x1 : Int).toNat (some 54)) 54, 0, 0)
        refine qr_aload_n 59 rfl rfl rfl ?_
        refine qr_aload_n 60 rfl rfl rfl ?_
        refine qr_put 63 rfl (by decide) rfl (Nat.le_of_ble_eq_true rfl) (Nat.le_of_ble_eq_true rfl) (Or.inl rfl) (qr_fitR (Or.inl ⟨_, rfl⟩) _) rfl ?_
        show qr_W (qe L xs vb) (d + 57) qx_e85 _ (63, _, [], qw σ8 α4 (va_up κ (x1 : Int).toNat (some 54)) 50, 0, 0)
        refine qr_iconst 64 rfl rfl ?_
        have hw16 : σ8 16 15 = 0 := (congrFun (congrFun e9 16) 15).trans rfl
        refine qr_retI rfl rfl (by decide) (by decide) ?_
        exact ⟨_, _, _, _, rfl, qI_sw hI10 (x1 : Int).toNat 50 (Or.inl rfl), hF11, 1, rfl, by omega, by omega⟩
      · skip
        refine qr_astore_n _ 48 rfl (by decide) rfl rfl ?_
        refine qr_aload_n 49 rfl rfl rfl ?_
        refine qr_get 52 rfl rfl rfl (by decide) rfl ?_
        refine qr_iload_n 53 rfl rfl rfl ?_
        refine qr_aload_n 54 rfl rfl rfl ?_
        refine qr_get 57 rfl rfl rfl (by decide) rfl ?_
        refine qr_aastore 58 rfl (by decide) (by decide) rfl rfl (by omega) (by decide) rfl ?_
        show qr_W (qe L xs vb) (d + 57) qx_e85 _ (58, _, [], qw σ8 α4 (va_up κ (x1 : Int).toNat (some 54)) 54, 0, 0)
        refine qr_aload_n 59 rfl rfl rfl ?_
        refine qr_aload_n 60 rfl rfl rfl ?_
        refine qr_put 63 rfl (by decide) rfl (Nat.le_of_ble_eq_true rfl) (Nat.le_of_ble_eq_true rfl) (Or.inl rfl) (qr_fitR (Or.inl ⟨_, rfl⟩) _) rfl ?_
        show qr_W (qe L xs vb) (d + 57) qx_e85 _ (63, _, [], qw σ8 α4 (va_up κ (x1 : Int).toNat (some 54)) 54, 0, 0)
        refine qr_iconst 64 rfl rfl ?_
        have hw17 : σ8 16 15 = 0 := (congrFun (congrFun e9 16) 15).trans rfl
        refine qr_retI rfl rfl (by decide) (by decide) ?_
        exact ⟨_, _, _, _, rfl, qI_sw hI10 (x1 : Int).toNat 54 (Or.inr (Or.inl rfl)), hF11, 1, rfl, by omega, by omega⟩
      · skip
        refine qr_astore_n _ 48 rfl (by decide) rfl rfl ?_
        refine qr_aload_n 49 rfl rfl rfl ?_
        refine qr_get 52 rfl rfl rfl (by decide) rfl ?_
        refine qr_iload_n 53 rfl rfl rfl ?_
        refine qr_aload_n 54 rfl rfl rfl ?_
        refine qr_get 57 rfl rfl rfl (by decide) rfl ?_
        refine qr_aastore 58 rfl (by decide) (by decide) rfl rfl (by omega) (by decide) rfl ?_
        show qr_W (qe L xs vb) (d + 57) qx_e85 _ (58, _, [], qw σ8 α4 (va_up κ (x1 : Int).toNat (some 54)) 54, 0, 0)
        refine qr_aload_n 59 rfl rfl rfl ?_
        refine qr_aload_n 60 rfl rfl rfl ?_
        refine qr_put 63 rfl (by decide) rfl (Nat.le_of_ble_eq_true rfl) (Nat.le_of_ble_eq_true rfl) (Or.inl rfl) (qr_fitR (Or.inl ⟨_, rfl⟩) _) rfl ?_
        show qr_W (qe L xs vb) (d + 57) qx_e85 _ (63, _, [], qw σ8 α4 (va_up κ (x1 : Int).toNat (some 54)) 82, 0, 0)
        refine qr_iconst 64 rfl rfl ?_
        have hw18 : σ8 16 15 = 0 := (congrFun (congrFun e9 16) 15).trans rfl
        refine qr_retI rfl rfl (by decide) (by decide) ?_
        exact ⟨_, _, _, _, rfl, qI_sw hI10 (x1 : Int).toNat 82 (Or.inr (Or.inr rfl)), hF11, 1, rfl, by omega, by omega⟩
    · skip
      refine qr_bipush 38 rfl (by decide) rfl ?_
      refine qr_iload_n 39 rfl rfl rfl ?_
      refine qr_isub 40 rfl rfl ?_
      have hw19 : σ8 16 15 = 0 := (congrFun (congrFun e9 16) 15).trans rfl
      refine qr_retI rfl rfl (by decide) (by decide) ?_
      exact ⟨_, _, _, _, rfl, hI10, hF11, ((-100) - v2), rfl, by omega, by omega⟩
  · skip
    refine qr_iload_n 5 rfl rfl rfl ?_
    refine qr_iconst 6 rfl rfl ?_
    refine qr_icmp_eq 11 9 rfl rfl rfl (by omega) (by omega) (fun h20 => ?_) (fun h20 => ?_)
    · skip
      refine qr_aload_n 12 rfl rfl rfl ?_
      refine qr_get 15 rfl rfl rfl (by decide) rfl ?_
      refine qr_aload_n 16 rfl rfl rfl ?_
      refine qr_get 19 rfl rfl rfl (by decide) rfl ?_
      refine qr_aload_n 20 rfl rfl rfl ?_
      refine qr_get 23 rfl rfl rfl (by decide) rfl ?_
      refine qr_callN 26 rfl rfl rfl (sf_86_54_81 (d := d + 0) hI (by omega)) ?_
      rintro _ _ ⟨σ22, α23, rfl, hI24, hG25, v21, rfl, hv21⟩
      have hF26 : qFr [(16, 15), (50, 3), (50, 4), (50, 5), (50, 6), (50, 7), (54, 3), (54, 4), (54, 5), (54, 6), (54, 7), (82, 3), (82, 4), (82, 5), (82, 6), (82, 7)] [51, 52, 55, 56, 83, 84] σ α σ22 α23 := qFr_t hF0 hG25 (by decide) (by decide)
      show qr_W (qe L xs vb) (d + 57) qx_e85 _ (26, _, [.int (qz v21)], qw σ22 α23 κ 54, 0, 0)
      refine qr_istore_n _ 27 rfl (by decide) rfl rfl ?_
      refine qr_aload_n 28 rfl rfl rfl ?_
      refine qr_iconst 29 rfl rfl ?_
      refine qr_put 32 rfl (by decide) rfl (Nat.le_of_ble_eq_true rfl) (Nat.le_of_ble_eq_true rfl) (Or.inl rfl) (qr_fitI rfl _) rfl ?_
      refine qy_wS (qw_s σ22 16 15 0) rfl (fun σ27 e28 => ?_)
      have hI29 : qI σ27 α23 κ 54 := by rw [e28]; exact qI_s hI24 16 15 rfl (show 0 ≤ 0 ∧ 0 ≤ 120 by omega)
      have hF30 : qFr [(16, 15), (50, 3), (50, 4), (50, 5), (50, 6), (50, 7), (54, 3), (54, 4), (54, 5), (54, 6), (54, 7), (82, 3), (82, 4), (82, 5), (82, 6), (82, 7)] [51, 52, 55, 56, 83, 84] σ α σ27 α23 := by rw [e28]; exact qFr_s hF26 16 15 _ (by decide)
      refine qr_iload_n 33 rfl rfl rfl ?_
      refine qr_if_lt 41 36 rfl rfl rfl (by omega) (fun h31 => ?_) (fun h31 => ?_)
      · skip
        refine qr_aload_n 42 rfl rfl rfl ?_
        refine qr_get 45 rfl rfl rfl (by decide) rfl ?_
        refine qr_iload_n 46 rfl rfl rfl ?_
        obtain ⟨c32, hc33, hq34⟩ := qI_k hI29 (y := x1) (by omega)
        refine qr_aaload 47 rfl (by decide) rfl (by omega) (by decide) hc33 rfl ?_
        rcases hq34 with rfl | rfl | rfl
        · skip
          refine qr_astore_n _ 48 rfl (by decide) rfl rfl ?_
          refine qr_aload_n 49 rfl rfl rfl ?_
          refine qr_get 52 rfl rfl rfl (by decide) rfl ?_
          refine qr_iload_n 53 rfl rfl rfl ?_
          refine qr_aload_n 54 rfl rfl rfl ?_
          refine qr_get 57 rfl rfl rfl (by decide) rfl ?_
          refine qr_aastore 58 rfl (by decide) (by decide) rfl rfl (by omega) (by decide) rfl ?_
          show qr_W (qe L xs vb) (d + 57) qx_e85 _ (58, _, [], qw σ27 α23 (va_up κ (x1 : Int).toNat (some 54)) 54, 0, 0)
          refine qr_aload_n 59 rfl rfl rfl ?_
          refine qr_aload_n 60 rfl rfl rfl ?_
          refine qr_put 63 rfl (by decide) rfl (Nat.le_of_ble_eq_true rfl) (Nat.le_of_ble_eq_true rfl) (Or.inl rfl) (qr_fitR (Or.inl ⟨_, rfl⟩) _) rfl ?_
          show qr_W (qe L xs vb) (d + 57) qx_e85 _ (63, _, [], qw σ27 α23 (va_up κ (x1 : Int).toNat (some 54)) 50, 0, 0)
          refine qr_iconst 64 rfl rfl ?_
          have hw35 : σ27 16 15 = 0 := (congrFun (congrFun e28 16) 15).trans rfl
          refine qr_retI rfl rfl (by decide) (by decide) ?_
          exact ⟨_, _, _, _, rfl, qI_sw hI29 (x1 : Int).toNat 50 (Or.inl rfl), hF30, 1, rfl, by omega, by omega⟩
        · skip
          refine qr_astore_n _ 48 rfl (by decide) rfl rfl ?_
          refine qr_aload_n 49 rfl rfl rfl ?_
          refine qr_get 52 rfl rfl rfl (by decide) rfl ?_
          refine qr_iload_n 53 rfl rfl rfl ?_
          refine qr_aload_n 54 rfl rfl rfl ?_
          refine qr_get 57 rfl rfl rfl (by decide) rfl ?_
          refine qr_aastore 58 rfl (by decide) (by decide) rfl rfl (by omega) (by decide) rfl ?_
          show qr_W (qe L xs vb) (d + 57) qx_e85 _ (58, _, [], qw σ27 α23 (va_up κ (x1 : Int).toNat (some 54)) 54, 0, 0)
          refine qr_aload_n 59 rfl rfl rfl ?_
          refine qr_aload_n 60 rfl rfl rfl ?_
          refine qr_put 63 rfl (by decide) rfl (Nat.le_of_ble_eq_true rfl) (Nat.le_of_ble_eq_true rfl) (Or.inl rfl) (qr_fitR (Or.inl ⟨_, rfl⟩) _) rfl ?_
          show qr_W (qe L xs vb) (d + 57) qx_e85 _ (63, _, [], qw σ27 α23 (va_up κ (x1 : Int).toNat (some 54)) 54, 0, 0)
          refine qr_iconst 64 rfl rfl ?_
          have hw36 : σ27 16 15 = 0 := (congrFun (congrFun e28 16) 15).trans rfl
          refine qr_retI rfl rfl (by decide) (by decide) ?_
          exact ⟨_, _, _, _, rfl, qI_sw hI29 (x1 : Int).toNat 54 (Or.inr (Or.inl rfl)), hF30, 1, rfl, by omega, by omega⟩
        · skip
          refine qr_astore_n _ 48 rfl (by decide) rfl rfl ?_
          refine qr_aload_n 49 rfl rfl rfl ?_
          refine qr_get 52 rfl rfl rfl (by decide) rfl ?_
          refine qr_iload_n 53 rfl rfl rfl ?_
          refine qr_aload_n 54 rfl rfl rfl ?_
          refine qr_get 57 rfl rfl rfl (by decide) rfl ?_
          refine qr_aastore 58 rfl (by decide) (by decide) rfl rfl (by omega) (by decide) rfl ?_
          show qr_W (qe L xs vb) (d + 57) qx_e85 _ (58, _, [], qw σ27 α23 (va_up κ (x1 : Int).toNat (some 54)) 54, 0, 0)
          refine qr_aload_n 59 rfl rfl rfl ?_
          refine qr_aload_n 60 rfl rfl rfl ?_
          refine qr_put 63 rfl (by decide) rfl (Nat.le_of_ble_eq_true rfl) (Nat.le_of_ble_eq_true rfl) (Or.inl rfl) (qr_fitR (Or.inl ⟨_, rfl⟩) _) rfl ?_
          show qr_W (qe L xs vb) (d + 57) qx_e85 _ (63, _, [], qw σ27 α23 (va_up κ (x1 : Int).toNat (some 54)) 82, 0, 0)
          refine qr_iconst 64 rfl rfl ?_
          have hw37 : σ27 16 15 = 0 := (congrFun (congrFun e28 16) 15).trans rfl
          refine qr_retI rfl rfl (by decide) (by decide) ?_
          exact ⟨_, _, _, _, rfl, qI_sw hI29 (x1 : Int).toNat 82 (Or.inr (Or.inr rfl)), hF30, 1, rfl, by omega, by omega⟩
      · skip
        refine qr_bipush 38 rfl (by decide) rfl ?_
        refine qr_iload_n 39 rfl rfl rfl ?_
        refine qr_isub 40 rfl rfl ?_
        have hw38 : σ27 16 15 = 0 := (congrFun (congrFun e28 16) 15).trans rfl
        refine qr_retI rfl rfl (by decide) (by decide) ?_
        exact ⟨_, _, _, _, rfl, hI29, hF30, ((-100) - v21), rfl, by omega, by omega⟩
    · skip
      refine qr_iconst 10 rfl rfl ?_
      have hw39 : σ 16 15 = (σ 16 15) := rfl
      refine qr_retI rfl rfl (by decide) (by decide) ?_
      exact ⟨_, _, _, _, rfl, hI, hF0, (-1), rfl, by omega, by omega⟩

set_option maxHeartbeats 4000000 in
set_option maxRecDepth 20000 in
/-- OneRoof.custom -/
theorem sf_85_16q82 {L : Nat} {xs : Nat → Int} {vb : Bool} {d : Nat} {σ α : Nat → Nat → Int} {κ : Nat → Option Nat} {x1 : Int} (hI : qI σ α κ 82) (r1 : (-2147483648) ≤ x1 ∧ x1 ≤ 2147483647) : qm_T (qe L xs vb) (d + 58) 85 [.ref 16, .int (qz x1)] (qw σ α κ 82) (fun r w' => ∃ σ' α' κ' ρ', w' = qw σ' α' κ' ρ' ∧ qI σ' α' κ' ρ' ∧ qFr [(16, 15), (50, 3), (50, 4), (50, 5), (50, 6), (50, 7), (54, 3), (54, 4), (54, 5), (54, 6), (54, 7), (82, 3), (82, 4), (82, 5), (82, 6), (82, 7)] [51, 52, 55, 56, 83, 84] σ α σ' α' ∧ ∃ v : Int, r = some (.int (qz v)) ∧ (-2147483648 ≤ v ∧ v ≤ 2147483647) ∧ (((x1 = 0 ∨ x1 = 1) ∧ σ' 16 15 = 0) ∨ (¬ (x1 = 0 ∨ x1 = 1) ∧ σ' 16 15 = σ 16 15))) := by
  refine qr_start (d := d + 57) qv_e85 (Nat.le_of_ble_eq_true rfl) ?_
  show qr_W (qe L xs vb) (d + 57) qx_e85 _ (0, [(0, .ref 16), (1, .int (qz x1))], [], _, 0, 0)
  have hF0 := qFr_rf [(16, 15), (50, 3), (50, 4), (50, 5), (50, 6), (50, 7), (54, 3), (54, 4), (54, 5), (54, 6), (54, 7), (82, 3), (82, 4), (82, 5), (82, 6), (82, 7)] [51, 52, 55, 56, 83, 84] σ α
  have hz16_15 : 0 ≤ σ 16 15 ∧ σ 16 15 ≤ 120 := hI.1 16 15
  refine qr_iload_n 1 rfl rfl rfl ?_
  refine qr_if_eq 11 4 rfl rfl rfl (by omega) (fun h1 => ?_) (fun h1 => ?_)
  · skip
    refine qr_aload_n 12 rfl rfl rfl ?_
    refine qr_get 15 rfl rfl rfl (by decide) rfl ?_
    refine qr_aload_n 16 rfl rfl rfl ?_
    refine qr_get 19 rfl rfl rfl (by decide) rfl ?_
    refine qr_aload_n 20 rfl rfl rfl ?_
    refine qr_get 23 rfl rfl rfl (by decide) rfl ?_
    refine qr_callN 26 rfl rfl rfl (sf_86_82_81 (d := d + 0) hI (by omega)) ?_
    rintro _ _ ⟨σ3, α4, rfl, hI5, hG6, v2, rfl, hv2⟩
    have hF7 : qFr [(16, 15), (50, 3), (50, 4), (50, 5), (50, 6), (50, 7), (54, 3), (54, 4), (54, 5), (54, 6), (54, 7), (82, 3), (82, 4), (82, 5), (82, 6), (82, 7)] [51, 52, 55, 56, 83, 84] σ α σ3 α4 := qFr_t hF0 hG6 (by decide) (by decide)
    show qr_W (qe L xs vb) (d + 57) qx_e85 _ (26, _, [.int (qz v2)], qw σ3 α4 κ 82, 0, 0)
    refine qr_istore_n _ 27 rfl (by decide) rfl rfl ?_
    refine qr_aload_n 28 rfl rfl rfl ?_
    refine qr_iconst 29 rfl rfl ?_
    refine qr_put 32 rfl (by decide) rfl (Nat.le_of_ble_eq_true rfl) (Nat.le_of_ble_eq_true rfl) (Or.inl rfl) (qr_fitI rfl _) rfl ?_
    refine qy_wS (qw_s σ3 16 15 0) rfl (fun σ8 e9 => ?_)
    have hI10 : qI σ8 α4 κ 82 := by rw [e9]; exact qI_s hI5 16 15 rfl (show 0 ≤ 0 ∧ 0 ≤ 120 by omega)
    have hF11 : qFr [(16, 15), (50, 3), (50, 4), (50, 5), (50, 6), (50, 7), (54, 3), (54, 4), (54, 5), (54, 6), (54, 7), (82, 3), (82, 4), (82, 5), (82, 6), (82, 7)] [51, 52, 55, 56, 83, 84] σ α σ8 α4 := by rw [e9]; exact qFr_s hF7 16 15 _ (by decide)
    refine qr_iload_n 33 rfl rfl rfl ?_
    refine qr_if_lt 41 36 rfl rfl rfl (by omega) (fun h12 => ?_) (fun h12 => ?_)
    · skip
      refine qr_aload_n 42 rfl rfl rfl ?_
      refine qr_get 45 rfl rfl rfl (by decide) rfl ?_
      refine qr_iload_n 46 rfl rfl rfl ?_
      obtain ⟨c13, hc14, hq15⟩ := qI_k hI10 (y := x1) (by omega)
      refine qr_aaload 47 rfl (by decide) rfl (by omega) (by decide) hc14 rfl ?_
      rcases hq15 with rfl | rfl | rfl
      · skip
        refine qr_astore_n _ 48 rfl (by decide) rfl rfl ?_
        refine qr_aload_n 49 rfl rfl rfl ?_
        refine qr_get 52 rfl rfl rfl (by decide) rfl ?_
        refine qr_iload_n 53 rfl rfl rfl ?_
        refine qr_aload_n 54 rfl rfl rfl ?_
        refine qr_get 57 rfl rfl rfl (by decide) rfl ?_
        refine qr_aastore 58 rfl (by decide) (by decide) rfl rfl (by omega) (by decide) rfl ?_
        show qr_W (qe L xs vb) (d + 57) qx_e85 _ (58, _, [], qw σ8 α4 (va_up κ (x1 : Int).toNat (some 82)) 82, 0, 0)
        refine qr_aload_n 59 rfl rfl rfl ?_
        refine qr_aload_n 60 rfl rfl rfl ?_
        refine qr_put 63 rfl (by decide) rfl (Nat.le_of_ble_eq_true rfl) (Nat.le_of_ble_eq_true rfl) (Or.inl rfl) (qr_fitR (Or.inl ⟨_, rfl⟩) _) rfl ?_
        show qr_W (qe L xs vb) (d + 57) qx_e85 _ (63, _, [], qw σ8 α4 (va_up κ (x1 : Int).toNat (some 82)) 50, 0, 0)
        refine qr_iconst 64 rfl rfl ?_
        have hw16 : σ8 16 15 = 0 := (congrFun (congrFun e9 16) 15).trans rfl
        refine qr_retI rfl rfl (by decide) (by decide) ?_
        exact ⟨_, _, _, _, rfl, qI_sw hI10 (x1 : Int).toNat 50 (Or.inl rfl), hF11, 1, rfl, by omega, by omega⟩
      · skip
        refine qr_astore_n _ 48 rfl (by decide) rfl rfl ?_
        refine qr_aload_n 49 rfl rfl rfl ?_
        refine qr_get 52 rfl rfl rfl (by decide) rfl ?_
        refine qr_iload_n 53 rfl rfl rfl ?_
        refine qr_aload_n 54 rfl rfl rfl ?_
        refine qr_get 57 rfl rfl rfl (by decide) rfl ?_
        refine qr_aastore 58 rfl (by decide) (by decide) rfl rfl (by omega) (by decide) rfl ?_
        show qr_W (qe L xs vb) (d + 57) qx_e85 _ (58, _, [], qw σ8 α4 (va_up κ (x1 : Int).toNat (some 82)) 82, 0, 0)
        refine qr_aload_n 59 rfl rfl rfl ?_
        refine qr_aload_n 60 rfl rfl rfl ?_
        refine qr_put 63 rfl (by decide) rfl (Nat.le_of_ble_eq_true rfl) (Nat.le_of_ble_eq_true rfl) (Or.inl rfl) (qr_fitR (Or.inl ⟨_, rfl⟩) _) rfl ?_
        show qr_W (qe L xs vb) (d + 57) qx_e85 _ (63, _, [], qw σ8 α4 (va_up κ (x1 : Int).toNat (some 82)) 54, 0, 0)
        refine qr_iconst 64 rfl rfl ?_
        have hw17 : σ8 16 15 = 0 := (congrFun (congrFun e9 16) 15).trans rfl
        refine qr_retI rfl rfl (by decide) (by decide) ?_
        exact ⟨_, _, _, _, rfl, qI_sw hI10 (x1 : Int).toNat 54 (Or.inr (Or.inl rfl)), hF11, 1, rfl, by omega, by omega⟩
      · skip
        refine qr_astore_n _ 48 rfl (by decide) rfl rfl ?_
        refine qr_aload_n 49 rfl rfl rfl ?_
        refine qr_get 52 rfl rfl rfl (by decide) rfl ?_
        refine qr_iload_n 53 rfl rfl rfl ?_
        refine qr_aload_n 54 rfl rfl rfl ?_
        refine qr_get 57 rfl rfl rfl (by decide) rfl ?_
        refine qr_aastore 58 rfl (by decide) (by decide) rfl rfl (by omega) (by decide) rfl ?_
        show qr_W (qe L xs vb) (d + 57) qx_e85 _ (58, _, [], qw σ8 α4 (va_up κ (x1 : Int).toNat (some 82)) 82, 0, 0)
        refine qr_aload_n 59 rfl rfl rfl ?_
        refine qr_aload_n 60 rfl rfl rfl ?_
        refine qr_put 63 rfl (by decide) rfl (Nat.le_of_ble_eq_true rfl) (Nat.le_of_ble_eq_true rfl) (Or.inl rfl) (qr_fitR (Or.inl ⟨_, rfl⟩) _) rfl ?_
        show qr_W (qe L xs vb) (d + 57) qx_e85 _ (63, _, [], qw σ8 α4 (va_up κ (x1 : Int).toNat (some 82)) 82, 0, 0)
        refine qr_iconst 64 rfl rfl ?_
        have hw18 : σ8 16 15 = 0 := (congrFun (congrFun e9 16) 15).trans rfl
        refine qr_retI rfl rfl (by decide) (by decide) ?_
        exact ⟨_, _, _, _, rfl, qI_sw hI10 (x1 : Int).toNat 82 (Or.inr (Or.inr rfl)), hF11, 1, rfl, by omega, by omega⟩
    · skip
      refine qr_bipush 38 rfl (by decide) rfl ?_
      refine qr_iload_n 39 rfl rfl rfl ?_
      refine qr_isub 40 rfl rfl ?_
      have hw19 : σ8 16 15 = 0 := (congrFun (congrFun e9 16) 15).trans rfl
      refine qr_retI rfl rfl (by decide) (by decide) ?_
      exact ⟨_, _, _, _, rfl, hI10, hF11, ((-100) - v2), rfl, by omega, by omega⟩
  · skip
    refine qr_iload_n 5 rfl rfl rfl ?_
    refine qr_iconst 6 rfl rfl ?_
    refine qr_icmp_eq 11 9 rfl rfl rfl (by omega) (by omega) (fun h20 => ?_) (fun h20 => ?_)
    · skip
      refine qr_aload_n 12 rfl rfl rfl ?_
      refine qr_get 15 rfl rfl rfl (by decide) rfl ?_
      refine qr_aload_n 16 rfl rfl rfl ?_
      refine qr_get 19 rfl rfl rfl (by decide) rfl ?_
      refine qr_aload_n 20 rfl rfl rfl ?_
      refine qr_get 23 rfl rfl rfl (by decide) rfl ?_
      refine qr_callN 26 rfl rfl rfl (sf_86_82_81 (d := d + 0) hI (by omega)) ?_
      rintro _ _ ⟨σ22, α23, rfl, hI24, hG25, v21, rfl, hv21⟩
      have hF26 : qFr [(16, 15), (50, 3), (50, 4), (50, 5), (50, 6), (50, 7), (54, 3), (54, 4), (54, 5), (54, 6), (54, 7), (82, 3), (82, 4), (82, 5), (82, 6), (82, 7)] [51, 52, 55, 56, 83, 84] σ α σ22 α23 := qFr_t hF0 hG25 (by decide) (by decide)
      show qr_W (qe L xs vb) (d + 57) qx_e85 _ (26, _, [.int (qz v21)], qw σ22 α23 κ 82, 0, 0)
      refine qr_istore_n _ 27 rfl (by decide) rfl rfl ?_
      refine qr_aload_n 28 rfl rfl rfl ?_
      refine qr_iconst 29 rfl rfl ?_
      refine qr_put 32 rfl (by decide) rfl (Nat.le_of_ble_eq_true rfl) (Nat.le_of_ble_eq_true rfl) (Or.inl rfl) (qr_fitI rfl _) rfl ?_
      refine qy_wS (qw_s σ22 16 15 0) rfl (fun σ27 e28 => ?_)
      have hI29 : qI σ27 α23 κ 82 := by rw [e28]; exact qI_s hI24 16 15 rfl (show 0 ≤ 0 ∧ 0 ≤ 120 by omega)
      have hF30 : qFr [(16, 15), (50, 3), (50, 4), (50, 5), (50, 6), (50, 7), (54, 3), (54, 4), (54, 5), (54, 6), (54, 7), (82, 3), (82, 4), (82, 5), (82, 6), (82, 7)] [51, 52, 55, 56, 83, 84] σ α σ27 α23 := by rw [e28]; exact qFr_s hF26 16 15 _ (by decide)
      refine qr_iload_n 33 rfl rfl rfl ?_
      refine qr_if_lt 41 36 rfl rfl rfl (by omega) (fun h31 => ?_) (fun h31 => ?_)
      · skip
        refine qr_aload_n 42 rfl rfl rfl ?_
        refine qr_get 45 rfl rfl rfl (by decide) rfl ?_
        refine qr_iload_n 46 rfl rfl rfl ?_
        obtain ⟨c32, hc33, hq34⟩ := qI_k hI29 (y := x1) (by omega)
        refine qr_aaload 47 rfl (by decide) rfl (by omega) (by decide) hc33 rfl ?_
        rcases hq34 with rfl | rfl | rfl
        · skip
          refine qr_astore_n _ 48 rfl (by decide) rfl rfl ?_
          refine qr_aload_n 49 rfl rfl rfl ?_
          refine qr_get 52 rfl rfl rfl (by decide) rfl ?_
          refine qr_iload_n 53 rfl rfl rfl ?_
          refine qr_aload_n 54 rfl rfl rfl ?_
          refine qr_get 57 rfl rfl rfl (by decide) rfl ?_
          refine qr_aastore 58 rfl (by decide) (by decide) rfl rfl (by omega) (by decide) rfl ?_
          show qr_W (qe L xs vb) (d + 57) qx_e85 _ (58, _, [], qw σ27 α23 (va_up κ (x1 : Int).toNat (some 82)) 82, 0, 0)
          refine qr_aload_n 59 rfl rfl rfl ?_
          refine qr_aload_n 60 rfl rfl rfl ?_
          refine qr_put 63 rfl (by decide) rfl (Nat.le_of_ble_eq_true rfl) (Nat.le_of_ble_eq_true rfl) (Or.inl rfl) (qr_fitR (Or.inl ⟨_, rfl⟩) _) rfl ?_
          show qr_W (qe L xs vb) (d + 57) qx_e85 _ (63, _, [], qw σ27 α23 (va_up κ (x1 : Int).toNat (some 82)) 50, 0, 0)
          refine qr_iconst 64 rfl rfl ?_
          have hw35 : σ27 16 15 = 0 := (congrFun (congrFun e28 16) 15).trans rfl
          refine qr_retI rfl rfl (by decide) (by decide) ?_
          exact ⟨_, _, _, _, rfl, qI_sw hI29 (x1 : Int).toNat 50 (Or.inl rfl), hF30, 1, rfl, by omega, by omega⟩
        · skip
          refine qr_astore_n _ 48 rfl (by decide) rfl rfl ?_
          refine qr_aload_n 49 rfl rfl rfl ?_
          refine qr_get 52 rfl rfl rfl (by decide) rfl ?_
          refine qr_iload_n 53 rfl rfl rfl ?_
          refine qr_aload_n 54 rfl rfl rfl ?_
          refine qr_get 57 rfl rfl rfl (by decide) rfl ?_
          refine qr_aastore 58 rfl (by decide) (by decide) rfl rfl (by omega) (by decide) rfl ?_
          show qr_W (qe L xs vb) (d + 57) qx_e85 _ (58, _, [], qw σ27 α23 (va_up κ (x1 : Int).toNat (some 82)) 82, 0, 0)
          refine qr_aload_n 59 rfl rfl rfl ?_
          refine qr_aload_n 60 rfl rfl rfl ?_
          refine qr_put 63 rfl (by decide) rfl (Nat.le_of_ble_eq_true rfl) (Nat.le_of_ble_eq_true rfl) (Or.inl rfl) (qr_fitR (Or.inl ⟨_, rfl⟩) _) rfl ?_
          show qr_W (qe L xs vb) (d + 57) qx_e85 _ (63, _, [], qw σ27 α23 (va_up κ (x1 : Int).toNat (some 82)) 54, 0, 0)
          refine qr_iconst 64 rfl rfl ?_
          have hw36 : σ27 16 15 = 0 := (congrFun (congrFun e28 16) 15).trans rfl
          refine qr_retI rfl rfl (by decide) (by decide) ?_
          exact ⟨_, _, _, _, rfl, qI_sw hI29 (x1 : Int).toNat 54 (Or.inr (Or.inl rfl)), hF30, 1, rfl, by omega, by omega⟩
        · skip
          refine qr_astore_n _ 48 rfl (by decide) rfl rfl ?_
          refine qr_aload_n 49 rfl rfl rfl ?_
          refine qr_get 52 rfl rfl rfl (by decide) rfl ?_
          refine qr_iload_n 53 rfl rfl rfl ?_
          refine qr_aload_n 54 rfl rfl rfl ?_
          refine qr_get 57 rfl rfl rfl (by decide) rfl ?_
          refine qr_aastore 58 rfl (by decide) (by decide) rfl rfl (by omega) (by decide) rfl ?_
          show qr_W (qe L xs vb) (d + 57) qx_e85 _ (58, _, [], qw σ27 α23 (va_up κ (x1 : Int).toNat (some 82)) 82, 0, 0)
          refine qr_aload_n 59 rfl rfl rfl ?_
          refine qr_aload_n 60 rfl rfl rfl ?_
          refine qr_put 63 rfl (by decide) rfl (Nat.le_of_ble_eq_true rfl) (Nat.le_of_ble_eq_true rfl) (Or.inl rfl) (qr_fitR (Or.inl ⟨_, rfl⟩) _) rfl ?_
          show qr_W (qe L xs vb) (d + 57) qx_e85 _ (63, _, [], qw σ27 α23 (va_up κ (x1 : Int).toNat (some 82)) 82, 0, 0)
          refine qr_iconst 64 rfl rfl ?_
          have hw37 : σ27 16 15 = 0 := (congrFun (congrFun e28 16) 15).trans rfl
          refine qr_retI rfl rfl (by decide) (by decide) ?_
          exact ⟨_, _, _, _, rfl, qI_sw hI29 (x1 : Int).toNat 82 (Or.inr (Or.inr rfl)), hF30, 1, rfl, by omega, by omega⟩
      · skip
        refine qr_bipush 38 rfl (by decide) rfl ?_
        refine qr_iload_n 39 rfl rfl rfl ?_
        refine qr_isub 40 rfl rfl ?_
        have hw38 : σ27 16 15 = 0 := (congrFun (congrFun e28 16) 15).trans rfl
        refine qr_retI rfl rfl (by decide) (by decide) ?_
        exact ⟨_, _, _, _, rfl, hI29, hF30, ((-100) - v21), rfl, by omega, by omega⟩
    · skip
      refine qr_iconst 10 rfl rfl ?_
      have hw39 : σ 16 15 = (σ 16 15) := rfl
      refine qr_retI rfl rfl (by decide) (by decide) ?_
      exact ⟨_, _, _, _, rfl, hI, hF0, (-1), rfl, by omega, by omega⟩

set_option maxHeartbeats 4000000 in
theorem sf_85_16 {L : Nat} {xs : Nat → Int} {vb : Bool} {d : Nat} {σ α : Nat → Nat → Int} {κ : Nat → Option Nat} {ρ : Nat} {x1 : Int} (hI : qI σ α κ ρ) (r1 : (-2147483648) ≤ x1 ∧ x1 ≤ 2147483647) : qm_T (qe L xs vb) (d + 58) 85 [.ref 16, .int (qz x1)] (qw σ α κ ρ) (fun r w' => ∃ σ' α' κ' ρ', w' = qw σ' α' κ' ρ' ∧ qI σ' α' κ' ρ' ∧ qFr [(16, 15), (50, 3), (50, 4), (50, 5), (50, 6), (50, 7), (54, 3), (54, 4), (54, 5), (54, 6), (54, 7), (82, 3), (82, 4), (82, 5), (82, 6), (82, 7)] [51, 52, 55, 56, 83, 84] σ α σ' α' ∧ ∃ v : Int, r = some (.int (qz v)) ∧ (-2147483648 ≤ v ∧ v ≤ 2147483647) ∧ (((x1 = 0 ∨ x1 = 1) ∧ σ' 16 15 = 0) ∨ (¬ (x1 = 0 ∨ x1 = 1) ∧ σ' 16 15 = σ 16 15))) := by
  have h := hI.2.2.1.2.2
  unfold qI_c at h
  rcases h with rfl | rfl | rfl
  · exact sf_85_16q50 hI r1
  · exact sf_85_16q54 hI r1
  · exact sf_85_16q82 hI r1

set_option maxHeartbeats 4000000 in
set_option maxRecDepth 20000 in
/-- OneRoof.feed -/
theorem sf_84_16f {L : Nat} {xs : Nat → Int} {vb : Bool} {d : Nat} {σ α : Nat → Nat → Int} {κ : Nat → Option Nat} {ρ : Nat} {x1 : Int} {x2 : Int} (hI : qI σ α κ ρ) (r1 : (-2147483648) ≤ x1 ∧ x1 ≤ 2147483647) (r2 : (-2147483648) ≤ x2 ∧ x2 ≤ 2147483647) : qm_T (qe L xs vb) (d + 1) 84 [.ref 16, .int (qz x1), .int (qz x2)] (qw σ α κ ρ) (fun r w' => ∃ σ' α', w' = qw σ' α' κ ρ ∧ qI σ' α' κ ρ ∧ qFr [(16, 15)] [81] σ α σ' α' ∧ ∃ v : Int, r = some (.int (qz v)) ∧ ((-2147483648) ≤ v ∧ v ≤ 2147483647) ∧ ((v = -1 ∧ ¬ (1 ≤ x1 ∧ x1 ≤ 4) ∧ σ' 16 15 = σ 16 15) ∨ (v = -3 ∧ (1 ≤ x1 ∧ x1 ≤ 4) ∧ 120 < σ 16 15 + x1 ∧ σ' 16 15 = σ 16 15) ∨ ((1 ≤ x1 ∧ x1 ≤ 4) ∧ σ 16 15 + x1 ≤ 120 ∧ v = σ 16 15 + x1 ∧ σ' 16 15 = v))) := by
  refine qr_start (d := d + 0) qv_e84 (Nat.le_of_ble_eq_true rfl) ?_
  show qr_W (qe L xs vb) (d + 0) qx_e84 _ (0, [(0, .ref 16), (1, .int (qz x1)), (2, .int (qz x2))], [], _, 0, 0)
  have hF0 := qFr_rf [(16, 15)] [81] σ α
  have hz16_15 : 0 ≤ σ 16 15 ∧ σ 16 15 ≤ 120 := hI.1 16 15
  refine qr_iload_n 1 rfl rfl rfl ?_
  refine qr_iconst 2 rfl rfl ?_
  refine qr_icmp_lt 10 5 rfl rfl rfl (by omega) (by omega) (fun h1 => ?_) (fun h1 => ?_)
  · skip
    refine qr_iconst 11 rfl rfl ?_
    refine qr_retI rfl rfl (by decide) (by decide) ?_
    have hw2 : σ 16 15 = (σ 16 15) := rfl
    exact ⟨_, _, rfl, hI, hF0, (-1), rfl, by omega, by omega⟩
  · skip
    refine qr_iload_n 6 rfl rfl rfl ?_
    refine qr_iconst 7 rfl rfl ?_
    refine qr_icmp_le 12 10 rfl rfl rfl (by omega) (by omega) (fun h3 => ?_) (fun h3 => ?_)
    · skip
      refine qr_aload_n 13 rfl rfl rfl ?_
      refine qr_get 16 rfl rfl rfl (by decide) rfl ?_
      refine qr_iload_n 17 rfl rfl rfl ?_
      refine qr_iadd 18 rfl rfl ?_
      refine qr_bipush 20 rfl (by decide) rfl ?_
      refine qr_icmp_le 26 23 rfl rfl rfl (by omega) (by omega) (fun h4 => ?_) (fun h4 => ?_)
      · skip
        refine qr_iconst 27 rfl rfl ?_
        refine qr_istore_n _ 28 rfl (by decide) rfl rfl ?_
        have hL109 : ∀ (n : Nat) (ls : qm_L) (u103 : Int) (α105 : Nat → Nat → Int), 4 - u103 < (n : Int) → qm_get ls 0 = some (.ref 16) → qm_get ls 1 = some (.int (qz x1)) → qm_get ls 2 = some (.int (qz x2)) → qm_get ls 3 = some (.int (qz u103)) → (0 ≤ u103 ∧ u103 ≤ 4) → qI σ α105 κ ρ → qFr [(16, 15)] [81] σ α σ α105 → qr_W (qe L xs vb) (d + 0) qx_e84 (fun r w' => ∃ σ' α', w' = qw σ' α' κ ρ ∧ qI σ' α' κ ρ ∧ qFr [(16, 15)] [81] σ α σ' α' ∧ ∃ v : Int, r = some (.int (qz v)) ∧ ((-2147483648) ≤ v ∧ v ≤ 2147483647) ∧ ((v = -1 ∧ ¬ (1 ≤ x1 ∧ x1 ≤ 4) ∧ σ' 16 15 = σ 16 15) ∨ (v = -3 ∧ (1 ≤ x1 ∧ x1 ≤ 4) ∧ 120 < σ 16 15 + x1 ∧ σ' 16 15 = σ 16 15) ∨ ((1 ≤ x1 ∧ x1 ≤ 4) ∧ σ 16 15 + x1 ≤ 120 ∧ v = σ 16 15 + x1 ∧ σ' 16 15 = v))) (28, ls, [], qw σ α105 κ ρ, 0, 0) := by
          intro n
          induction n with
          | zero => intro ls u103 α105 hm g99 g100 g101 g102 hf108 hI106 hF107; exact False.elim (by omega)
          | succ n ih110 =>
            intro ls u103 α105 hm g99 g100 g101 g102 hf108 hI106 hF107
            refine qr_iload_n 29 rfl g102 rfl ?_
            refine qr_iload_n 30 rfl g100 rfl ?_
            refine qr_icmp_ge 60 33 rfl rfl rfl (by omega) (by omega) (fun h111 => ?_) (fun h111 => ?_)
            · skip
              refine qr_aload_n 61 rfl g99 rfl ?_
              refine qr_dup 62 rfl rfl rfl ?_
              refine qr_get 65 rfl rfl rfl (by decide) rfl ?_
              refine qr_iload_n 66 rfl g100 rfl ?_
              refine qr_iadd 67 rfl rfl ?_
              refine qr_put 70 rfl (by decide) rfl (Nat.le_of_ble_eq_true rfl) (Nat.le_of_ble_eq_true rfl) (Or.inl rfl) (qr_fitI rfl _) rfl ?_
              refine qy_wS (qw_s σ 16 15 ((σ 16 15) + x1)) rfl (fun σ112 e113 => ?_)
              have hI114 : qI σ112 α105 κ ρ := by rw [e113]; exact qI_s hI106 16 15 rfl (show 0 ≤ ((σ 16 15) + x1) ∧ ((σ 16 15) + x1) ≤ 120 by omega)
              have hF115 : qFr [(16, 15)] [81] σ α σ112 α105 := by rw [e113]; exact qFr_s hF107 16 15 _ (by decide)
              refine qr_aload_n 71 rfl g99 rfl ?_
              refine qr_get 74 rfl rfl rfl (by decide) rfl ?_
              refine qy_v ((σ 16 15) + x1) ((congrFun (congrFun e113 16) 15).trans rfl) ?_
              refine qr_retI rfl rfl (by decide) (by decide) ?_
              have hw116 : σ112 16 15 = ((σ 16 15) + x1) := (congrFun (congrFun e113 16) 15).trans rfl
              exact ⟨_, _, rfl, hI114, hF115, ((σ 16 15) + x1), rfl, by omega, by omega⟩
            · skip
              refine qr_aload_n 34 rfl g99 rfl ?_
              refine qr_get 37 rfl rfl rfl (by decide) rfl ?_
              refine qr_aload_n 38 rfl g99 rfl ?_
              refine qr_get 41 rfl rfl rfl (by decide) rfl ?_
              refine qr_iload_n 42 rfl g102 rfl ?_
              refine qr_iadd 43 rfl rfl ?_
              refine qr_iload_n 44 rfl g101 rfl ?_
              refine qr_bipush 46 rfl (by decide) rfl ?_
              refine qr_iload_n 47 rfl g102 rfl ?_
              refine qr_imul 48 rfl rfl ?_
              refine qr_iushr 49 rfl rfl ?_
              refine qy_can (fun v117 hv117 => ?_)
              refine qr_sipush 52 rfl (by decide) rfl ?_
              refine qr_iand 53 rfl rfl ?_
              refine qy_andr (by omega) (fun v118 hv118 => ?_)
              refine qr_iastore 54 rfl (by decide) rfl (by omega) (by decide) rfl ?_
              refine qy_wA (qw_r α105 81 (qzu (α105 81) (((σ 16 15) + u103) : Int).toNat v118)) rfl (fun α119 e120 => ?_)
              have hI121 : qI σ α119 κ ρ := by rw [e120]; exact qI_r hI106 81 _ rfl (show (-2147483648) ≤ v118 ∧ v118 ≤ 2147483647 by omega)
              have hF122 : qFr [(16, 15)] [81] σ α σ α119 := by rw [e120]; exact qFr_r hF107 81 _ (by decide)
              refine qr_iinc _ 57 rfl g102 (by decide) rfl rfl ?_
              refine qr_goto 28 rfl rfl ?_
              exact ih110 _ (u103 + 1) α119 (by omega) (qm_gk g99 (by decide) (Or.inl (by decide))) (qm_gk g100 (by decide) (Or.inl (by decide))) (qm_gk g101 (by decide) (Or.inr rfl)) (qm_ge _ _ _) (by omega) hI121 hF122
        exact hL109 ((4 - 0 + 1 : Int)).toNat _ 0 α (by omega) rfl rfl rfl rfl (by omega) hI hF0
      · skip
        refine qr_bipush 25 rfl (by decide) rfl ?_
        refine qr_retI rfl rfl (by decide) (by decide) ?_
        have hw123 : σ 16 15 = (σ 16 15) := rfl
        exact ⟨_, _, rfl, hI, hF0, (-3), rfl, by omega, by omega⟩
    · skip
      refine qr_iconst 11 rfl rfl ?_
      refine qr_retI rfl rfl (by decide) (by decide) ?_
      have hw124 : σ 16 15 = (σ 16 15) := rfl
      exact ⟨_, _, rfl, hI, hF0, (-1), rfl, by omega, by omega⟩
