set_option maxHeartbeats 4000000 in
set_option maxRecDepth 20000 in
/-- OneRoofModel.orders -/
theorem sf_243_86t3 {L : Nat} {xs : Nat → Int} {vb : Bool} {d : Nat} {σ α : Nat → Nat → Int} {κ : Nat → Option Nat} {ρ : Nat} {x2 : Int} {x3 : Int} {x4 : Int} (hI : qI σ α κ ρ) (r2 : (-2147483648) ≤ x2 ∧ x2 ≤ 2147483647) (r3 : (-2147483648) ≤ x3 ∧ x3 ≤ 2147483647) (r4 : 100 ≤ x4 ∧ x4 ≤ 2499) (p0 : 1 ≤ σ 86 6) (p1 : σ 86 43 ≤ 6) (p2 : 3 ≤ σ 86 43) : qm_T (qe L xs vb) (d + 9) 243 [.ref 86, .int (qz 3), .int (qz x2), .int (qz x3), .int (qz x4)] (qw σ α κ ρ) (fun r w' => ∃ σ' α', w' = qw σ' α' κ ρ ∧ qI σ' α' κ ρ ∧ qFr [(86, 15), (86, 23), (86, 30)] [96, 114] σ α σ' α' ∧ ∃ v : Int, r = some (.int (qz v)) ∧ (0 ≤ v ∧ v ≤ 1)) := by
  refine qr_start (d := d + 8) qv_e243 (Nat.le_of_ble_eq_true rfl) ?_
  show qr_W (qe L xs vb) (d + 8) qx_e243 _ (0, [(0, .ref 86), (1, .int (qz 3)), (2, .int (qz x2)), (3, .int (qz x3)), (4, .int (qz x4))], [], _, 0, 0)
  have hF0 := qFr_rf [(86, 15), (86, 23), (86, 30)] [96, 114] σ α
  have hz86_6 : 0 ≤ σ 86 6 ∧ σ 86 6 ≤ 32 := hI.1 86 6
  have hz86_43 : 0 ≤ σ 86 43 ∧ σ 86 43 ≤ 32 := hI.1 86 43
  refine qr_iload_n 1 rfl rfl rfl ?_
  refine qr_aload_n 2 rfl rfl rfl ?_
  refine qr_get 5 rfl rfl rfl (by decide) rfl ?_
  refine qr_icmp_ne 10 8 rfl rfl rfl (by omega) (by omega) (fun h1 => ?_) (fun h1 => ?_)
  · skip
    refine qr_iconst 11 rfl rfl ?_
    refine qr_istore _ 13 rfl (by decide) rfl rfl ?_
    have hL288 : ∀ (n : Nat) (ls : qm_L) (u280 : Int) (σ281 α282 : Nat → Nat → Int), 6 - u280 < (n : Int) → qm_get ls 0 = some (.ref 86) → qm_get ls 1 = some (.int (qz 3)) → qm_get ls 2 = some (.int (qz x2)) → qm_get ls 3 = some (.int (qz x3)) → qm_get ls 4 = some (.int (qz x4)) → qm_get ls 5 = some (.int (qz u280)) → (0 ≤ u280 ∧ u280 ≤ 6) → qI σ281 α282 κ ρ → qFr [(86, 15), (86, 23), (86, 30)] [96, 114] σ α σ281 α282 → σ281 86 6 = (σ 86 6) → σ281 86 43 = (σ 86 43) → qr_W (qe L xs vb) (d + 8) qx_e243 (fun r w' => ∃ σ' α', w' = qw σ' α' κ ρ ∧ qI σ' α' κ ρ ∧ qFr [(86, 15), (86, 23), (86, 30)] [96, 114] σ α σ' α' ∧ ∃ v : Int, r = some (.int (qz v)) ∧ (0 ≤ v ∧ v ≤ 1)) (13, ls, [], qw σ281 α282 κ ρ, 0, 0) := by
      intro n
      induction n with
      | zero => intro ls u280 σ281 α282 hm g274 g275 g276 g277 g278 g279 hf287 hI283 hF284 hk285 hk286; exact False.elim (by omega)
      | succ n ih289 =>
        intro ls u280 σ281 α282 hm g274 g275 g276 g277 g278 g279 hf287 hI283 hF284 hk285 hk286
        refine qr_iload 15 rfl g279 rfl ?_
        refine qr_aload_n 16 rfl g274 rfl ?_
        refine qr_get 19 rfl rfl rfl (by decide) rfl ?_
        refine qy_v (σ 86 43) ((hk286).trans rfl) ?_
        refine qr_icmp_ge 81 22 rfl rfl rfl (by omega) (by omega) (fun h290 => ?_) (fun h290 => ?_)
        · skip
          refine qr_iconst 82 rfl rfl ?_
          refine qr_retZ rfl rfl (by omega) (by decide) (by decide) ?_
          exact ⟨_, _, rfl, hI283, hF284, 0, rfl, by omega⟩
        · skip
          refine qr_iload_n 23 rfl g276 rfl ?_
          refine qr_iload 25 rfl g279 rfl ?_
          refine qr_ishr 26 rfl rfl ?_
          refine qy_can (fun v291 hv291 => ?_)
          refine qr_iconst 27 rfl rfl ?_
          refine qr_iand 28 rfl rfl ?_
          refine qy_andr (by omega) (fun v292 hv292 => ?_)
          refine qr_iconst 29 rfl rfl ?_
          refine qr_icmp_ne 35 32 rfl rfl rfl (by omega) (by omega) (fun h293 => ?_) (fun h293 => ?_)
          · skip
            refine qr_aload_n 36 rfl g274 rfl ?_
            refine qr_get 39 rfl rfl rfl (by decide) rfl ?_
            refine qr_iload_n 40 rfl g275 rfl ?_
            refine qr_iload 42 rfl g279 rfl ?_
            refine qr_iastore 43 rfl (by decide) rfl (by omega) (by decide) rfl ?_
            refine qy_wA (qw_r α282 114 (qzu (α282 114) (3 : Int).toNat u280)) rfl (fun α294 e295 => ?_)
            have hI296 : qI σ281 α294 κ ρ := by rw [e295]; exact qI_r hI283 114 _ rfl (show 0 ≤ u280 ∧ u280 ≤ 5 by omega)
            have hF297 : qFr [(86, 15), (86, 23), (86, 30)] [96, 114] σ α σ281 α294 := by rw [e295]; exact qFr_r hF284 114 _ (by decide)
            refine qr_aload_n 44 rfl g274 rfl ?_
            refine qr_iload_n 45 rfl g275 rfl ?_
            refine qr_iload_n 46 rfl g277 rfl ?_
            refine qr_iload 48 rfl g278 rfl ?_
            have hs298 : 0 ≤ σ281 86 43 ∧ σ281 86 43 ≤ 32 := hI296.1 86 43
            have hs299 : σ281 86 43 = (σ 86 43) := (hk286).trans rfl
            have hs300 : 0 ≤ σ281 86 6 ∧ σ281 86 6 ≤ 32 := hI296.1 86 6
            have hs301 : σ281 86 6 = (σ 86 6) := (hk285).trans rfl
            refine qr_callN 51 rfl rfl rfl (sf_244_86 (d := d + 2) hI296 (by omega) (by omega) (by omega) (by omega) (by omega)) ?_
            rintro _ _ ⟨σ303, α304, rfl, hI305, hG306, v302, rfl, hv302⟩
            have hF307 : qFr [(86, 15), (86, 23), (86, 30)] [96, 114] σ α σ303 α304 := qFr_t hF297 hG306 (by decide) (by decide)
            show qr_W (qe L xs vb) (d + 8) qx_e243 _ (51, _, [.int (qz v302)], qw σ303 α304 κ ρ, 0, 0)
            refine qr_if_ne 75 54 rfl rfl rfl (by omega) (fun h308 => ?_) (fun h308 => ?_)
            · skip
              refine qr_iinc _ 78 rfl g279 (by decide) rfl rfl ?_
              refine qr_goto 13 rfl rfl ?_
              exact ih289 _ (u280 + 1) σ303 α304 (by omega) (qm_gk g274 (by decide) (Or.inl (by decide))) (qm_gk g275 (by decide) (Or.inl (by decide))) (qm_gk g276 (by decide) (Or.inl (by decide))) (qm_gk g277 (by decide) (Or.inl (by decide))) (qm_gk g278 (by decide) (Or.inr rfl)) (qm_ge _ _ _) (by omega) hI305 hF307 ((hG306.1 86 6 (by decide)).trans ((hk285).trans rfl)) ((hG306.1 86 43 (by decide)).trans ((hk286).trans rfl))
            · skip
              refine qr_aload_n 55 rfl g274 rfl ?_
              refine qr_iload_n 56 rfl g275 rfl ?_
              refine qr_iconst 57 rfl rfl ?_
              refine qr_iadd 58 rfl rfl ?_
              refine qy_v 4 rfl ?_
              refine qr_iload_n 59 rfl g276 rfl ?_
              refine qr_iconst 60 rfl rfl ?_
              refine qr_iload 62 rfl g279 rfl ?_
              refine qr_ishl 63 rfl rfl ?_
              refine qy_shl1 (N := 5) (by omega) (fun v309 hv309 => ?_)
              refine qr_ior 64 rfl rfl ?_
              refine qy_can (fun v310 hv310 => ?_)
              refine qr_iload_n 65 rfl g277 rfl ?_
              refine qr_iload 67 rfl g278 rfl ?_
              have hs311 : 0 ≤ σ303 86 43 ∧ σ303 86 43 ≤ 32 := hI305.1 86 43
              have hs312 : σ303 86 43 = (σ 86 43) := (hG306.1 86 43 (by decide)).trans ((hk286).trans rfl)
              have hs313 : 0 ≤ σ303 86 6 ∧ σ303 86 6 ≤ 32 := hI305.1 86 6
              have hs314 : σ303 86 6 = (σ 86 6) := (hG306.1 86 6 (by decide)).trans ((hk285).trans rfl)
              refine qr_callN 70 rfl rfl rfl (sf_243_86t4 (d := d + 0) hI305 (by omega) (by omega) (by omega) (by omega) (by omega) (by omega)) ?_
              rintro _ _ ⟨σ316, α317, rfl, hI318, hG319, v315, rfl, hv315⟩
              have hF320 : qFr [(86, 15), (86, 23), (86, 30)] [96, 114] σ α σ316 α317 := qFr_t hF307 hG319 (by decide) (by decide)
              show qr_W (qe L xs vb) (d + 8) qx_e243 _ (70, _, [.int (qz v315)], qw σ316 α317 κ ρ, 0, 0)
              refine qr_if_eq 75 73 rfl rfl rfl (by omega) (fun h321 => ?_) (fun h321 => ?_)
              · skip
                refine qr_iinc _ 78 rfl g279 (by decide) rfl rfl ?_
                refine qr_goto 13 rfl rfl ?_
                exact ih289 _ (u280 + 1) σ316 α317 (by omega) (qm_gk g274 (by decide) (Or.inl (by decide))) (qm_gk g275 (by decide) (Or.inl (by decide))) (qm_gk g276 (by decide) (Or.inl (by decide))) (qm_gk g277 (by decide) (Or.inl (by decide))) (qm_gk g278 (by decide) (Or.inr rfl)) (qm_ge _ _ _) (by omega) hI318 hF320 ((hG319.1 86 6 (by decide)).trans ((hG306.1 86 6 (by decide)).trans ((hk285).trans rfl))) ((hG319.1 86 43 (by decide)).trans ((hG306.1 86 43 (by decide)).trans ((hk286).trans rfl)))
              · skip
                refine qr_iconst 74 rfl rfl ?_
                refine qr_retZ rfl rfl (by omega) (by decide) (by decide) ?_
                exact ⟨_, _, rfl, hI318, hF320, 1, rfl, by omega⟩
          · skip
            refine qr_goto 75 rfl rfl ?_
            refine qr_iinc _ 78 rfl g279 (by decide) rfl rfl ?_
            refine qr_goto 13 rfl rfl ?_
            exact ih289 _ (u280 + 1) σ281 α282 (by omega) (qm_gk g274 (by decide) (Or.inl (by decide))) (qm_gk g275 (by decide) (Or.inl (by decide))) (qm_gk g276 (by decide) (Or.inl (by decide))) (qm_gk g277 (by decide) (Or.inl (by decide))) (qm_gk g278 (by decide) (Or.inr rfl)) (qm_ge _ _ _) (by omega) hI283 hF284 ((hk285).trans rfl) ((hk286).trans rfl)
    exact hL288 ((6 - 0 + 1 : Int)).toNat _ 0 σ α (by omega) rfl rfl rfl rfl rfl rfl (by omega) hI hF0 (rfl) (rfl)
  · skip
    refine qr_iconst 9 rfl rfl ?_
    refine qr_retZ rfl rfl (by omega) (by decide) (by decide) ?_
    exact ⟨_, _, rfl, hI, hF0, 1, rfl, by omega⟩

set_option maxHeartbeats 4000000 in
set_option maxRecDepth 20000 in
/-- OneRoofModel.orders -/
theorem sf_243_86t2 {L : Nat} {xs : Nat → Int} {vb : Bool} {d : Nat} {σ α : Nat → Nat → Int} {κ : Nat → Option Nat} {ρ : Nat} {x2 : Int} {x3 : Int} {x4 : Int} (hI : qI σ α κ ρ) (r2 : (-2147483648) ≤ x2 ∧ x2 ≤ 2147483647) (r3 : (-2147483648) ≤ x3 ∧ x3 ≤ 2147483647) (r4 : 100 ≤ x4 ∧ x4 ≤ 2499) (p0 : 1 ≤ σ 86 6) (p1 : σ 86 43 ≤ 6) (p2 : 2 ≤ σ 86 43) : qm_T (qe L xs vb) (d + 10) 243 [.ref 86, .int (qz 2), .int (qz x2), .int (qz x3), .int (qz x4)] (qw σ α κ ρ) (fun r w' => ∃ σ' α', w' = qw σ' α' κ ρ ∧ qI σ' α' κ ρ ∧ qFr [(86, 15), (86, 23), (86, 30)] [96, 114] σ α σ' α' ∧ ∃ v : Int, r = some (.int (qz v)) ∧ (0 ≤ v ∧ v ≤ 1)) := by
  refine qr_start (d := d + 9) qv_e243 (Nat.le_of_ble_eq_true rfl) ?_
  show qr_W (qe L xs vb) (d + 9) qx_e243 _ (0, [(0, .ref 86), (1, .int (qz 2)), (2, .int (qz x2)), (3, .int (qz x3)), (4, .int (qz x4))], [], _, 0, 0)
  have hF0 := qFr_rf [(86, 15), (86, 23), (86, 30)] [96, 114] σ α
  have hz86_6 : 0 ≤ σ 86 6 ∧ σ 86 6 ≤ 32 := hI.1 86 6
  have hz86_43 : 0 ≤ σ 86 43 ∧ σ 86 43 ≤ 32 := hI.1 86 43
  refine qr_iload_n 1 rfl rfl rfl ?_
  refine qr_aload_n 2 rfl rfl rfl ?_
  refine qr_get 5 rfl rfl rfl (by decide) rfl ?_
  refine qr_icmp_ne 10 8 rfl rfl rfl (by omega) (by omega) (fun h1 => ?_) (fun h1 => ?_)
  · skip
    refine qr_iconst 11 rfl rfl ?_
    refine qr_istore _ 13 rfl (by decide) rfl rfl ?_
    have hL288 : ∀ (n : Nat) (ls : qm_L) (u280 : Int) (σ281 α282 : Nat → Nat → Int), 6 - u280 < (n : Int) → qm_get ls 0 = some (.ref 86) → qm_get ls 1 = some (.int (qz 2)) → qm_get ls 2 = some (.int (qz x2)) → qm_get ls 3 = some (.int (qz x3)) → qm_get ls 4 = some (.int (qz x4)) → qm_get ls 5 = some (.int (qz u280)) → (0 ≤ u280 ∧ u280 ≤ 6) → qI σ281 α282 κ ρ → qFr [(86, 15), (86, 23), (86, 30)] [96, 114] σ α σ281 α282 → σ281 86 6 = (σ 86 6) → σ281 86 43 = (σ 86 43) → qr_W (qe L xs vb) (d + 9) qx_e243 (fun r w' => ∃ σ' α', w' = qw σ' α' κ ρ ∧ qI σ' α' κ ρ ∧ qFr [(86, 15), (86, 23), (86, 30)] [96, 114] σ α σ' α' ∧ ∃ v : Int, r = some (.int (qz v)) ∧ (0 ≤ v ∧ v ≤ 1)) (13, ls, [], qw σ281 α282 κ ρ, 0, 0) := by
      intro n
      induction n with
      | zero => intro ls u280 σ281 α282 hm g274 g275 g276 g277 g278 g279 hf287 hI283 hF284 hk285 hk286; exact False.elim (by omega)
      | succ n ih289 =>
        intro ls u280 σ281 α282 hm g274 g275 g276 g277 g278 g279 hf287 hI283 hF284 hk285 hk286
        refine qr_iload 15 rfl g279 rfl ?_
        refine qr_aload_n 16 rfl g274 rfl ?_
        refine qr_get 19 rfl rfl rfl (by decide) rfl ?_
        refine qy_v (σ 86 43) ((hk286).trans rfl) ?_
        refine qr_icmp_ge 81 22 rfl rfl rfl (by omega) (by omega) (fun h290 => ?_) (fun h290 => ?_)
        · skip
          refine qr_iconst 82 rfl rfl ?_
          refine qr_retZ rfl rfl (by omega) (by decide) (by decide) ?_
          exact ⟨_, _, rfl, hI283, hF284, 0, rfl, by omega⟩
        · skip
          refine qr_iload_n 23 rfl g276 rfl ?_
          refine qr_iload 25 rfl g279 rfl ?_
          refine qr_ishr 26 rfl rfl ?_
          refine qy_can (fun v291 hv291 => ?_)
          refine qr_iconst 27 rfl rfl ?_
          refine qr_iand 28 rfl rfl ?_
          refine qy_andr (by omega) (fun v292 hv292 => ?_)
          refine qr_iconst 29 rfl rfl ?_
          refine qr_icmp_ne 35 32 rfl rfl rfl (by omega) (by omega) (fun h293 => ?_) (fun h293 => ?_)
          · skip
            refine qr_aload_n 36 rfl g274 rfl ?_
            refine qr_get 39 rfl rfl rfl (by decide) rfl ?_
            refine qr_iload_n 40 rfl g275 rfl ?_
            refine qr_iload 42 rfl g279 rfl ?_
            refine qr_iastore 43 rfl (by decide) rfl (by omega) (by decide) rfl ?_
            refine qy_wA (qw_r α282 114 (qzu (α282 114) (2 : Int).toNat u280)) rfl (fun α294 e295 => ?_)
            have hI296 : qI σ281 α294 κ ρ := by rw [e295]; exact qI_r hI283 114 _ rfl (show 0 ≤ u280 ∧ u280 ≤ 5 by omega)
            have hF297 : qFr [(86, 15), (86, 23), (86, 30)] [96, 114] σ α σ281 α294 := by rw [e295]; exact qFr_r hF284 114 _ (by decide)
            refine qr_aload_n 44 rfl g274 rfl ?_
            refine qr_iload_n 45 rfl g275 rfl ?_
            refine qr_iload_n 46 rfl g277 rfl ?_
            refine qr_iload 48 rfl g278 rfl ?_
            have hs298 : 0 ≤ σ281 86 43 ∧ σ281 86 43 ≤ 32 := hI296.1 86 43
            have hs299 : σ281 86 43 = (σ 86 43) := (hk286).trans rfl
            have hs300 : 0 ≤ σ281 86 6 ∧ σ281 86 6 ≤ 32 := hI296.1 86 6
            have hs301 : σ281 86 6 = (σ 86 6) := (hk285).trans rfl
            refine qr_callN 51 rfl rfl rfl (sf_244_86 (d := d + 3) hI296 (by omega) (by omega) (by omega) (by omega) (by omega)) ?_
            rintro _ _ ⟨σ303, α304, rfl, hI305, hG306, v302, rfl, hv302⟩
            have hF307 : qFr [(86, 15), (86, 23), (86, 30)] [96, 114] σ α σ303 α304 := qFr_t hF297 hG306 (by decide) (by decide)
            show qr_W (qe L xs vb) (d + 9) qx_e243 _ (51, _, [.int (qz v302)], qw σ303 α304 κ ρ, 0, 0)
            refine qr_if_ne 75 54 rfl rfl rfl (by omega) (fun h308 => ?_) (fun h308 => ?_)
            · skip
              refine qr_iinc _ 78 rfl g279 (by decide) rfl rfl ?_
              refine qr_goto 13 rfl rfl ?_
              exact ih289 _ (u280 + 1) σ303 α304 (by omega) (qm_gk g274 (by decide) (Or.inl (by decide))) (qm_gk g275 (by decide) (Or.inl (by decide))) (qm_gk g276 (by decide) (Or.inl (by decide))) (qm_gk g277 (by decide) (Or.inl (by decide))) (qm_gk g278 (by decide) (Or.inr rfl)) (qm_ge _ _ _) (by omega) hI305 hF307 ((hG306.1 86 6 (by decide)).trans ((hk285).trans rfl)) ((hG306.1 86 43 (by decide)).trans ((hk286).trans rfl))
            · skip
              refine qr_aload_n 55 rfl g274 rfl ?_
              refine qr_iload_n 56 rfl g275 rfl ?_
              refine qr_iconst 57 rfl rfl ?_
              refine qr_iadd 58 rfl rfl ?_
              refine qy_v 3 rfl ?_
              refine qr_iload_n 59 rfl g276 rfl ?_
              refine qr_iconst 60 rfl rfl ?_
              refine qr_iload 62 rfl g279 rfl ?_
              refine qr_ishl 63 rfl rfl ?_
              refine qy_shl1 (N := 5) (by omega) (fun v309 hv309 => ?_)
              refine qr_ior 64 rfl rfl ?_
              refine qy_can (fun v310 hv310 => ?_)
              refine qr_iload_n 65 rfl g277 rfl ?_
              refine qr_iload 67 rfl g278 rfl ?_
              have hs311 : 0 ≤ σ303 86 43 ∧ σ303 86 43 ≤ 32 := hI305.1 86 43
              have hs312 : σ303 86 43 = (σ 86 43) := (hG306.1 86 43 (by decide)).trans ((hk286).trans rfl)
              have hs313 : 0 ≤ σ303 86 6 ∧ σ303 86 6 ≤ 32 := hI305.1 86 6
              have hs314 : σ303 86 6 = (σ 86 6) := (hG306.1 86 6 (by decide)).trans ((hk285).trans rfl)
              refine qr_callN 70 rfl rfl rfl (sf_243_86t3 (d := d + 0) hI305 (by omega) (by omega) (by omega) (by omega) (by omega) (by omega)) ?_
              rintro _ _ ⟨σ316, α317, rfl, hI318, hG319, v315, rfl, hv315⟩
              have hF320 : qFr [(86, 15), (86, 23), (86, 30)] [96, 114] σ α σ316 α317 := qFr_t hF307 hG319 (by decide) (by decide)
              show qr_W (qe L xs vb) (d + 9) qx_e243 _ (70, _, [.int (qz v315)], qw σ316 α317 κ ρ, 0, 0)
              refine qr_if_eq 75 73 rfl rfl rfl (by omega) (fun h321 => ?_) (fun h321 => ?_)
              · skip
                refine qr_iinc _ 78 rfl g279 (by decide) rfl rfl ?_
                refine qr_goto 13 rfl rfl ?_
                exact ih289 _ (u280 + 1) σ316 α317 (by omega) (qm_gk g274 (by decide) (Or.inl (by decide))) (qm_gk g275 (by decide) (Or.inl (by decide))) (qm_gk g276 (by decide) (Or.inl (by decide))) (qm_gk g277 (by decide) (Or.inl (by decide))) (qm_gk g278 (by decide) (Or.inr rfl)) (qm_ge _ _ _) (by omega) hI318 hF320 ((hG319.1 86 6 (by decide)).trans ((hG306.1 86 6 (by decide)).trans ((hk285).trans rfl))) ((hG319.1 86 43 (by decide)).trans ((hG306.1 86 43 (by decide)).trans ((hk286).trans rfl)))
              · skip
                refine qr_iconst 74 rfl rfl ?_
                refine qr_retZ rfl rfl (by omega) (by decide) (by decide) ?_
                exact ⟨_, _, rfl, hI318, hF320, 1, rfl, by omega⟩
          · skip
            refine qr_goto 75 rfl rfl ?_
            refine qr_iinc _ 78 rfl g279 (by decide) rfl rfl ?_
            refine qr_goto 13 rfl rfl ?_
            exact ih289 _ (u280 + 1) σ281 α282 (by omega) (qm_gk g274 (by decide) (Or.inl (by decide))) (qm_gk g275 (by decide) (Or.inl (by decide))) (qm_gk g276 (by decide) (Or.inl (by decide))) (qm_gk g277 (by decide) (Or.inl (by decide))) (qm_gk g278 (by decide) (Or.inr rfl)) (qm_ge _ _ _) (by omega) hI283 hF284 ((hk285).trans rfl) ((hk286).trans rfl)
    exact hL288 ((6 - 0 + 1 : Int)).toNat _ 0 σ α (by omega) rfl rfl rfl rfl rfl rfl (by omega) hI hF0 (rfl) (rfl)
  · skip
    refine qr_iconst 9 rfl rfl ?_
    refine qr_retZ rfl rfl (by omega) (by decide) (by decide) ?_
    exact ⟨_, _, rfl, hI, hF0, 1, rfl, by omega⟩

set_option maxHeartbeats 4000000 in
set_option maxRecDepth 20000 in
/-- OneRoofModel.orders -/
theorem sf_243_86t1 {L : Nat} {xs : Nat → Int} {vb : Bool} {d : Nat} {σ α : Nat → Nat → Int} {κ : Nat → Option Nat} {ρ : Nat} {x2 : Int} {x3 : Int} {x4 : Int} (hI : qI σ α κ ρ) (r2 : (-2147483648) ≤ x2 ∧ x2 ≤ 2147483647) (r3 : (-2147483648) ≤ x3 ∧ x3 ≤ 2147483647) (r4 : 100 ≤ x4 ∧ x4 ≤ 2499) (p0 : 1 ≤ σ 86 6) (p1 : σ 86 43 ≤ 6) (p2 : 1 ≤ σ 86 43) : qm_T (qe L xs vb) (d + 11) 243 [.ref 86, .int (qz 1), .int (qz x2), .int (qz x3), .int (qz x4)] (qw σ α κ ρ) (fun r w' => ∃ σ' α', w' = qw σ' α' κ ρ ∧ qI σ' α' κ ρ ∧ qFr [(86, 15), (86, 23), (86, 30)] [96, 114] σ α σ' α' ∧ ∃ v : Int, r = some (.int (qz v)) ∧ (0 ≤ v ∧ v ≤ 1)) := by
  refine qr_start (d := d + 10) qv_e243 (Nat.le_of_ble_eq_true rfl) ?_
  show qr_W (qe L xs vb) (d + 10) qx_e243 _ (0, [(0, .ref 86), (1, .int (qz 1)), (2, .int (qz x2)), (3, .int (qz x3)), (4, .int (qz x4))], [], _, 0, 0)
  have hF0 := qFr_rf [(86, 15), (86, 23), (86, 30)] [96, 114] σ α
  have hz86_6 : 0 ≤ σ 86 6 ∧ σ 86 6 ≤ 32 := hI.1 86 6
  have hz86_43 : 0 ≤ σ 86 43 ∧ σ 86 43 ≤ 32 := hI.1 86 43
  refine qr_iload_n 1 rfl rfl rfl ?_
  refine qr_aload_n 2 rfl rfl rfl ?_
  refine qr_get 5 rfl rfl rfl (by decide) rfl ?_
  refine qr_icmp_ne 10 8 rfl rfl rfl (by omega) (by omega) (fun h1 => ?_) (fun h1 => ?_)
  · skip
    refine qr_iconst 11 rfl rfl ?_
    refine qr_istore _ 13 rfl (by decide) rfl rfl ?_
    have hL288 : ∀ (n : Nat) (ls : qm_L) (u280 : Int) (σ281 α282 : Nat → Nat → Int), 6 - u280 < (n : Int) → qm_get ls 0 = some (.ref 86) → qm_get ls 1 = some (.int (qz 1)) → qm_get ls 2 = some (.int (qz x2)) → qm_get ls 3 = some (.int (qz x3)) → qm_get ls 4 = some (.int (qz x4)) → qm_get ls 5 = some (.int (qz u280)) → (0 ≤ u280 ∧ u280 ≤ 6) → qI σ281 α282 κ ρ → qFr [(86, 15), (86, 23), (86, 30)] [96, 114] σ α σ281 α282 → σ281 86 6 = (σ 86 6) → σ281 86 43 = (σ 86 43) → qr_W (qe L xs vb) (d + 10) qx_e243 (fun r w' => ∃ σ' α', w' = qw σ' α' κ ρ ∧ qI σ' α' κ ρ ∧ qFr [(86, 15), (86, 23), (86, 30)] [96, 114] σ α σ' α' ∧ ∃ v : Int, r = some (.int (qz v)) ∧ (0 ≤ v ∧ v ≤ 1)) (13, ls, [], qw σ281 α282 κ ρ, 0, 0) := by
      intro n
      induction n with
      | zero => intro ls u280 σ281 α282 hm g274 g275 g276 g277 g278 g279 hf287 hI283 hF284 hk285 hk286; exact False.elim (by omega)
      | succ n ih289 =>
        intro ls u280 σ281 α282 hm g274 g275 g276 g277 g278 g279 hf287 hI283 hF284 hk285 hk286
        refine qr_iload 15 rfl g279 rfl ?_
        refine qr_aload_n 16 rfl g274 rfl ?_
        refine qr_get 19 rfl rfl rfl (by decide) rfl ?_
        refine qy_v (σ 86 43) ((hk286).trans rfl) ?_
        refine qr_icmp_ge 81 22 rfl rfl rfl (by omega) (by omega) (fun h290 => ?_) (fun h290 => ?_)
        · skip
          refine qr_iconst 82 rfl rfl ?_
          refine qr_retZ rfl rfl (by omega) (by decide) (by decide) ?_
          exact ⟨_, _, rfl, hI283, hF284, 0, rfl, by omega⟩
        · skip
          refine qr_iload_n 23 rfl g276 rfl ?_
          refine qr_iload 25 rfl g279 rfl ?_
          refine qr_ishr 26 rfl rfl ?_
          refine qy_can (fun v291 hv291 => ?_)
          refine qr_iconst 27 rfl rfl ?_
          refine qr_iand 28 rfl rfl ?_
          refine qy_andr (by omega) (fun v292 hv292 => ?_)
          refine qr_iconst 29 rfl rfl ?_
          refine qr_icmp_ne 35 32 rfl rfl rfl (by omega) (by omega) (fun h293 => ?_) (fun h293 => ?_)
          · skip
            refine qr_aload_n 36 rfl g274 rfl ?_
            refine qr_get 39 rfl rfl rfl (by decide) rfl ?_
            refine qr_iload_n 40 rfl g275 rfl ?_
            refine qr_iload 42 rfl g279 rfl ?_
            refine qr_iastore 43 rfl (by decide) rfl (by omega) (by decide) rfl ?_
            refine qy_wA (qw_r α282 114 (qzu (α282 114) (1 : Int).toNat u280)) rfl (fun α294 e295 => ?_)
            have hI296 : qI σ281 α294 κ ρ := by rw [e295]; exact qI_r hI283 114 _ rfl (show 0 ≤ u280 ∧ u280 ≤ 5 by omega)
            have hF297 : qFr [(86, 15), (86, 23), (86, 30)] [96, 114] σ α σ281 α294 := by rw [e295]; exact qFr_r hF284 114 _ (by decide)
            refine qr_aload_n 44 rfl g274 rfl ?_
            refine qr_iload_n 45 rfl g275 rfl ?_
            refine qr_iload_n 46 rfl g277 rfl ?_
            refine qr_iload 48 rfl g278 rfl ?_
            have hs298 : 0 ≤ σ281 86 43 ∧ σ281 86 43 ≤ 32 := hI296.1 86 43
            have hs299 : σ281 86 43 = (σ 86 43) := (hk286).trans rfl
            have hs300 : 0 ≤ σ281 86 6 ∧ σ281 86 6 ≤ 32 := hI296.1 86 6
            have hs301 : σ281 86 6 = (σ 86 6) := (hk285).trans rfl
            refine qr_callN 51 rfl rfl rfl (sf_244_86 (d := d + 4) hI296 (by omega) (by omega) (by omega) (by omega) (by omega)) ?_
            rintro _ _ ⟨σ303, α304, rfl, hI305, hG306, v302, rfl, hv302⟩
            have hF307 : qFr [(86, 15), (86, 23), (86, 30)] [96, 114] σ α σ303 α304 := qFr_t hF297 hG306 (by decide) (by decide)
            show qr_W (qe L xs vb) (d + 10) qx_e243 _ (51, _, [.int (qz v302)], qw σ303 α304 κ ρ, 0, 0)
            refine qr_if_ne 75 54 rfl rfl rfl (by omega) (fun h308 => ?_) (fun h308 => ?_)
            · skip
              refine qr_iinc _ 78 rfl g279 (by decide) rfl rfl ?_
              refine qr_goto 13 rfl rfl ?_
              exact ih289 _ (u280 + 1) σ303 α304 (by omega) (qm_gk g274 (by decide) (Or.inl (by decide))) (qm_gk g275 (by decide) (Or.inl (by decide))) (qm_gk g276 (by decide) (Or.inl (by decide))) (qm_gk g277 (by decide) (Or.inl (by decide))) (qm_gk g278 (by decide) (Or.inr rfl)) (qm_ge _ _ _) (by omega) hI305 hF307 ((hG306.1 86 6 (by decide)).trans ((hk285).trans rfl)) ((hG306.1 86 43 (by decide)).trans ((hk286).trans rfl))
            · skip
              refine qr_aload_n 55 rfl g274 rfl ?_
              refine qr_iload_n 56 rfl g275 rfl ?_
              refine qr_iconst 57 rfl rfl ?_
              refine qr_iadd 58 rfl rfl ?_
              refine qy_v 2 rfl ?_
              refine qr_iload_n 59 rfl g276 rfl ?_
              refine qr_iconst 60 rfl rfl ?_
              refine qr_iload 62 rfl g279 rfl ?_
              refine qr_ishl 63 rfl rfl ?_
              refine qy_shl1 (N := 5) (by omega) (fun v309 hv309 => ?_)
              refine qr_ior 64 rfl rfl ?_
              refine qy_can (fun v310 hv310 => ?_)
              refine qr_iload_n 65 rfl g277 rfl ?_
              refine qr_iload 67 rfl g278 rfl ?_
              have hs311 : 0 ≤ σ303 86 43 ∧ σ303 86 43 ≤ 32 := hI305.1 86 43
              have hs312 : σ303 86 43 = (σ 86 43) := (hG306.1 86 43 (by decide)).trans ((hk286).trans rfl)
              have hs313 : 0 ≤ σ303 86 6 ∧ σ303 86 6 ≤ 32 := hI305.1 86 6
              have hs314 : σ303 86 6 = (σ 86 6) := (hG306.1 86 6 (by decide)).trans ((hk285).trans rfl)
              refine qr_callN 70 rfl rfl rfl (sf_243_86t2 (d := d + 0) hI305 (by omega) (by omega) (by omega) (by omega) (by omega) (by omega)) ?_
              rintro _ _ ⟨σ316, α317, rfl, hI318, hG319, v315, rfl, hv315⟩
              have hF320 : qFr [(86, 15), (86, 23), (86, 30)] [96, 114] σ α σ316 α317 := qFr_t hF307 hG319 (by decide) (by decide)
              show qr_W (qe L xs vb) (d + 10) qx_e243 _ (70, _, [.int (qz v315)], qw σ316 α317 κ ρ, 0, 0)
              refine qr_if_eq 75 73 rfl rfl rfl (by omega) (fun h321 => ?_) (fun h321 => ?_)
              · skip
                refine qr_iinc _ 78 rfl g279 (by decide) rfl rfl ?_
                refine qr_goto 13 rfl rfl ?_
                exact ih289 _ (u280 + 1) σ316 α317 (by omega) (qm_gk g274 (by decide) (Or.inl (by decide))) (qm_gk g275 (by decide) (Or.inl (by decide))) (qm_gk g276 (by decide) (Or.inl (by decide))) (qm_gk g277 (by decide) (Or.inl (by decide))) (qm_gk g278 (by decide) (Or.inr rfl)) (qm_ge _ _ _) (by omega) hI318 hF320 ((hG319.1 86 6 (by decide)).trans ((hG306.1 86 6 (by decide)).trans ((hk285).trans rfl))) ((hG319.1 86 43 (by decide)).trans ((hG306.1 86 43 (by decide)).trans ((hk286).trans rfl)))
              · skip
                refine qr_iconst 74 rfl rfl ?_
                refine qr_retZ rfl rfl (by omega) (by decide) (by decide) ?_
                exact ⟨_, _, rfl, hI318, hF320, 1, rfl, by omega⟩
          · skip
            refine qr_goto 75 rfl rfl ?_
            refine qr_iinc _ 78 rfl g279 (by decide) rfl rfl ?_
            refine qr_goto 13 rfl rfl ?_
            exact ih289 _ (u280 + 1) σ281 α282 (by omega) (qm_gk g274 (by decide) (Or.inl (by decide))) (qm_gk g275 (by decide) (Or.inl (by decide))) (qm_gk g276 (by decide) (Or.inl (by decide))) (qm_gk g277 (by decide) (Or.inl (by decide))) (qm_gk g278 (by decide) (Or.inr rfl)) (qm_ge _ _ _) (by omega) hI283 hF284 ((hk285).trans rfl) ((hk286).trans rfl)
    exact hL288 ((6 - 0 + 1 : Int)).toNat _ 0 σ α (by omega) rfl rfl rfl rfl rfl rfl (by omega) hI hF0 (rfl) (rfl)
  · skip
    refine qr_iconst 9 rfl rfl ?_
    refine qr_retZ rfl rfl (by omega) (by decide) (by decide) ?_
    exact ⟨_, _, rfl, hI, hF0, 1, rfl, by omega⟩

set_option maxHeartbeats 4000000 in
set_option maxRecDepth 20000 in
/-- OneRoofModel.orders -/
theorem sf_243_86t0 {L : Nat} {xs : Nat → Int} {vb : Bool} {d : Nat} {σ α : Nat → Nat → Int} {κ : Nat → Option Nat} {ρ : Nat} {x2 : Int} {x3 : Int} {x4 : Int} (hI : qI σ α κ ρ) (r2 : (-2147483648) ≤ x2 ∧ x2 ≤ 2147483647) (r3 : (-2147483648) ≤ x3 ∧ x3 ≤ 2147483647) (r4 : 100 ≤ x4 ∧ x4 ≤ 2499) (p0 : 1 ≤ σ 86 6) (p1 : σ 86 43 ≤ 6) (p2 : 0 ≤ σ 86 43) : qm_T (qe L xs vb) (d + 12) 243 [.ref 86, .int (qz 0), .int (qz x2), .int (qz x3), .int (qz x4)] (qw σ α κ ρ) (fun r w' => ∃ σ' α', w' = qw σ' α' κ ρ ∧ qI σ' α' κ ρ ∧ qFr [(86, 15), (86, 23), (86, 30)] [96, 114] σ α σ' α' ∧ ∃ v : Int, r = some (.int (qz v)) ∧ (0 ≤ v ∧ v ≤ 1)) := by
  refine qr_start (d := d + 11) qv_e243 (Nat.le_of_ble_eq_true rfl) ?_
  show qr_W (qe L xs vb) (d + 11) qx_e243 _ (0, [(0, .ref 86), (1, .int (qz 0)), (2, .int (qz x2)), (3, .int (qz x3)), (4, .int (qz x4))], [], _, 0, 0)
  have hF0 := qFr_rf [(86, 15), (86, 23), (86, 30)] [96, 114] σ α
  have hz86_6 : 0 ≤ σ 86 6 ∧ σ 86 6 ≤ 32 := hI.1 86 6
  have hz86_43 : 0 ≤ σ 86 43 ∧ σ 86 43 ≤ 32 := hI.1 86 43
  refine qr_iload_n 1 rfl rfl rfl ?_
  refine qr_aload_n 2 rfl rfl rfl ?_
  refine qr_get 5 rfl rfl rfl (by decide) rfl ?_
  refine qr_icmp_ne 10 8 rfl rfl rfl (by omega) (by omega) (fun h1 => ?_) (fun h1 => ?_)
  · skip
    refine qr_iconst 11 rfl rfl ?_
    refine qr_istore _ 13 rfl (by decide) rfl rfl ?_
    have hL288 : ∀ (n : Nat) (ls : qm_L) (u280 : Int) (σ281 α282 : Nat → Nat → Int), 6 - u280 < (n : Int) → qm_get ls 0 = some (.ref 86) → qm_get ls 1 = some (.int (qz 0)) → qm_get ls 2 = some (.int (qz x2)) → qm_get ls 3 = some (.int (qz x3)) → qm_get ls 4 = some (.int (qz x4)) → qm_get ls 5 = some (.int (qz u280)) → (0 ≤ u280 ∧ u280 ≤ 6) → qI σ281 α282 κ ρ → qFr [(86, 15), (86, 23), (86, 30)] [96, 114] σ α σ281 α282 → σ281 86 6 = (σ 86 6) → σ281 86 43 = (σ 86 43) → qr_W (qe L xs vb) (d + 11) qx_e243 (fun r w' => ∃ σ' α', w' = qw σ' α' κ ρ ∧ qI σ' α' κ ρ ∧ qFr [(86, 15), (86, 23), (86, 30)] [96, 114] σ α σ' α' ∧ ∃ v : Int, r = some (.int (qz v)) ∧ (0 ≤ v ∧ v ≤ 1)) (13, ls, [], qw σ281 α282 κ ρ, 0, 0) := by
      intro n
      induction n with
      | zero => intro ls u280 σ281 α282 hm g274 g275 g276 g277 g278 g279 hf287 hI283 hF284 hk285 hk286; exact False.elim (by omega)
      | succ n ih289 =>
        intro ls u280 σ281 α282 hm g274 g275 g276 g277 g278 g279 hf287 hI283 hF284 hk285 hk286
        refine qr_iload 15 rfl g279 rfl ?_
        refine qr_aload_n 16 rfl g274 rfl ?_
        refine qr_get 19 rfl rfl rfl (by decide) rfl ?_
        refine qy_v (σ 86 43) ((hk286).trans rfl) ?_
        refine qr_icmp_ge 81 22 rfl rfl rfl (by omega) (by omega) (fun h290 => ?_) (fun h290 => ?_)
        · skip
          refine qr_iconst 82 rfl rfl ?_
          refine qr_retZ rfl rfl (by omega) (by decide) (by decide) ?_
          exact ⟨_, _, rfl, hI283, hF284, 0, rfl, by omega⟩
        · skip
          refine qr_iload_n 23 rfl g276 rfl ?_
          refine qr_iload 25 rfl g279 rfl ?_
          refine qr_ishr 26 rfl rfl ?_
          refine qy_can (fun v291 hv291 => ?_)
          refine qr_iconst 27 rfl rfl ?_
          refine qr_iand 28 rfl rfl ?_
          refine qy_andr (by omega) (fun v292 hv292 => ?_)
          refine qr_iconst 29 rfl rfl ?_
          refine qr_icmp_ne 35 32 rfl rfl rfl (by omega) (by omega) (fun h293 => ?_) (fun h293 => ?_)
          · skip
            refine qr_aload_n 36 rfl g274 rfl ?_
            refine qr_get 39 rfl rfl rfl (by decide) rfl ?_
            refine qr_iload_n 40 rfl g275 rfl ?_
            refine qr_iload 42 rfl g279 rfl ?_
            refine qr_iastore 43 rfl (by decide) rfl (by omega) (by decide) rfl ?_
            refine qy_wA (qw_r α282 114 (qzu (α282 114) (0 : Int).toNat u280)) rfl (fun α294 e295 => ?_)
            have hI296 : qI σ281 α294 κ ρ := by rw [e295]; exact qI_r hI283 114 _ rfl (show 0 ≤ u280 ∧ u280 ≤ 5 by omega)
            have hF297 : qFr [(86, 15), (86, 23), (86, 30)] [96, 114] σ α σ281 α294 := by rw [e295]; exact qFr_r hF284 114 _ (by decide)
            refine qr_aload_n 44 rfl g274 rfl ?_
            refine qr_iload_n 45 rfl g275 rfl ?_
            refine qr_iload_n 46 rfl g277 rfl ?_
            refine qr_iload 48 rfl g278 rfl ?_
            have hs298 : 0 ≤ σ281 86 43 ∧ σ281 86 43 ≤ 32 := hI296.1 86 43
            have hs299 : σ281 86 43 = (σ 86 43) := (hk286).trans rfl
            have hs300 : 0 ≤ σ281 86 6 ∧ σ281 86 6 ≤ 32 := hI296.1 86 6
            have hs301 : σ281 86 6 = (σ 86 6) := (hk285).trans rfl
            refine qr_callN 51 rfl rfl rfl (sf_244_86 (d := d + 5) hI296 (by omega) (by omega) (by omega) (by omega) (by omega)) ?_
            rintro _ _ ⟨σ303, α304, rfl, hI305, hG306, v302, rfl, hv302⟩
            have hF307 : qFr [(86, 15), (86, 23), (86, 30)] [96, 114] σ α σ303 α304 := qFr_t hF297 hG306 (by decide) (by decide)
            show qr_W (qe L xs vb) (d + 11) qx_e243 _ (51, _, [.int (qz v302)], qw σ303 α304 κ ρ, 0, 0)
            refine qr_if_ne 75 54 rfl rfl rfl (by omega) (fun h308 => ?_) (fun h308 => ?_)
            · skip
              refine qr_iinc _ 78 rfl g279 (by decide) rfl rfl ?_
              refine qr_goto 13 rfl rfl ?_
              exact ih289 _ (u280 + 1) σ303 α304 (by omega) (qm_gk g274 (by decide) (Or.inl (by decide))) (qm_gk g275 (by decide) (Or.inl (by decide))) (qm_gk g276 (by decide) (Or.inl (by decide))) (qm_gk g277 (by decide) (Or.inl (by decide))) (qm_gk g278 (by decide) (Or.inr rfl)) (qm_ge _ _ _) (by omega) hI305 hF307 ((hG306.1 86 6 (by decide)).trans ((hk285).trans rfl)) ((hG306.1 86 43 (by decide)).trans ((hk286).trans rfl))
            · skip
              refine qr_aload_n 55 rfl g274 rfl ?_
              refine qr_iload_n 56 rfl g275 rfl ?_
              refine qr_iconst 57 rfl rfl ?_
              refine qr_iadd 58 rfl rfl ?_
              refine qy_v 1 rfl ?_
              refine qr_iload_n 59 rfl g276 rfl ?_
              refine qr_iconst 60 rfl rfl ?_
              refine qr_iload 62 rfl g279 rfl ?_
              refine qr_ishl 63 rfl rfl ?_
              refine qy_shl1 (N := 5) (by omega) (fun v309 hv309 => ?_)
              refine qr_ior 64 rfl rfl ?_
              refine qy_can (fun v310 hv310 => ?_)
              refine qr_iload_n 65 rfl g277 rfl ?_
              refine qr_iload 67 rfl g278 rfl ?_
              have hs311 : 0 ≤ σ303 86 43 ∧ σ303 86 43 ≤ 32 := hI305.1 86 43
              have hs312 : σ303 86 43 = (σ 86 43) := (hG306.1 86 43 (by decide)).trans ((hk286).trans rfl)
              have hs313 : 0 ≤ σ303 86 6 ∧ σ303 86 6 ≤ 32 := hI305.1 86 6
              have hs314 : σ303 86 6 = (σ 86 6) := (hG306.1 86 6 (by decide)).trans ((hk285).trans rfl)
              refine qr_callN 70 rfl rfl rfl (sf_243_86t1 (d := d + 0) hI305 (by omega) (by omega) (by omega) (by omega) (by omega) (by omega)) ?_
              rintro _ _ ⟨σ316, α317, rfl, hI318, hG319, v315, rfl, hv315⟩
              have hF320 : qFr [(86, 15), (86, 23), (86, 30)] [96, 114] σ α σ316 α317 := qFr_t hF307 hG319 (by decide) (by decide)
              show qr_W (qe L xs vb) (d + 11) qx_e243 _ (70, _, [.int (qz v315)], qw σ316 α317 κ ρ, 0, 0)
              refine qr_if_eq 75 73 rfl rfl rfl (by omega) (fun h321 => ?_) (fun h321 => ?_)
              · skip
                refine qr_iinc _ 78 rfl g279 (by decide) rfl rfl ?_
                refine qr_goto 13 rfl rfl ?_
                exact ih289 _ (u280 + 1) σ316 α317 (by omega) (qm_gk g274 (by decide) (Or.inl (by decide))) (qm_gk g275 (by decide) (Or.inl (by decide))) (qm_gk g276 (by decide) (Or.inl (by decide))) (qm_gk g277 (by decide) (Or.inl (by decide))) (qm_gk g278 (by decide) (Or.inr rfl)) (qm_ge _ _ _) (by omega) hI318 hF320 ((hG319.1 86 6 (by decide)).trans ((hG306.1 86 6 (by decide)).trans ((hk285).trans rfl))) ((hG319.1 86 43 (by decide)).trans ((hG306.1 86 43 (by decide)).trans ((hk286).trans rfl)))
              · skip
                refine qr_iconst 74 rfl rfl ?_
                refine qr_retZ rfl rfl (by omega) (by decide) (by decide) ?_
                exact ⟨_, _, rfl, hI318, hF320, 1, rfl, by omega⟩
          · skip
            refine qr_goto 75 rfl rfl ?_
            refine qr_iinc _ 78 rfl g279 (by decide) rfl rfl ?_
            refine qr_goto 13 rfl rfl ?_
            exact ih289 _ (u280 + 1) σ281 α282 (by omega) (qm_gk g274 (by decide) (Or.inl (by decide))) (qm_gk g275 (by decide) (Or.inl (by decide))) (qm_gk g276 (by decide) (Or.inl (by decide))) (qm_gk g277 (by decide) (Or.inl (by decide))) (qm_gk g278 (by decide) (Or.inr rfl)) (qm_ge _ _ _) (by omega) hI283 hF284 ((hk285).trans rfl) ((hk286).trans rfl)
    exact hL288 ((6 - 0 + 1 : Int)).toNat _ 0 σ α (by omega) rfl rfl rfl rfl rfl rfl (by omega) hI hF0 (rfl) (rfl)
  · skip
    refine qr_iconst 9 rfl rfl ?_
    refine qr_retZ rfl rfl (by omega) (by decide) (by decide) ?_
    exact ⟨_, _, rfl, hI, hF0, 1, rfl, by omega⟩

set_option maxHeartbeats 4000000 in
set_option maxRecDepth 20000 in
/-- OneRoofModel.leave -/
theorem sf_242_86 {L : Nat} {xs : Nat → Int} {vb : Bool} {d : Nat} {σ α : Nat → Nat → Int} {κ : Nat → Option Nat} {ρ : Nat} {x1 : Int} {x2 : Int} {x3 : Int} (hI : qI σ α κ ρ) (r1 : (-9223372036854775808) ≤ x1 ∧ x1 ≤ 9223372036854775807) (r2 : (-2147483648) ≤ x2 ∧ x2 ≤ 2147483647) (r3 : (-2147483648) ≤ x3 ∧ x3 ≤ 2147483647) : qm_T (qe L xs vb) (d + 13) 242 [.ref 86, .long (ql x1), .int (qz x2), .int (qz x3)] (qw σ α κ ρ) (fun r w' => ∃ σ' α', w' = qw σ' α' κ ρ ∧ qI σ' α' κ ρ ∧ qFr [(86, 15), (86, 23), (86, 30), (86, 43)] [96, 110, 114] σ α σ' α' ∧ ∃ v : Int, r = some (.int (qz v)) ∧ ((-2147483648) ≤ v ∧ v ≤ 2147483647)) := by
  refine qr_start (d := d + 12) qv_e242 (Nat.le_of_ble_eq_true rfl) ?_
  show qr_W (qe L xs vb) (d + 12) qx_e242 _ (0, [(0, .ref 86), (1, .long (ql x1)), (3, .int (qz x2)), (4, .int (qz x3))], [], _, 0, 0)
  have hF0 := qFr_rf [(86, 15), (86, 23), (86, 30), (86, 43)] [96, 110, 114] σ α
  have hz86_6 : 0 ≤ σ 86 6 ∧ σ 86 6 ≤ 32 := hI.1 86 6
  refine qr_iload_n 1 rfl rfl rfl ?_
  refine qr_callN 4 rfl rfl rfl (sf_192 (d := d + 10) hI (by omega)) ?_
  rintro _ _ ⟨rfl, v1, rfl, hv1, hp2⟩
  show qr_W (qe L xs vb) (d + 12) qx_e242 _ (4, _, [.int (qz v1)], qw σ α κ ρ, 0, 0)
  refine qr_if_eq 32 7 rfl rfl rfl (by omega) (fun h3 => ?_) (fun h3 => ?_)
  · skip
    refine qr_iconst 33 rfl rfl ?_
    refine qr_retI rfl rfl (by decide) (by decide) ?_
    exact ⟨_, _, rfl, hI, hF0, (-1), rfl, by omega⟩
  · skip
    refine qr_iload 9 rfl rfl rfl ?_
    refine qr_i2l 10 rfl (by omega) rfl ?_
    refine qr_ldc2 100 13 rfl (by decide) rfl ?_
    refine qr_ldc2 2499 16 rfl (by decide) rfl ?_
    refine qr_callN 19 rfl rfl rfl (sf_176 (d := d + 11) hI (by omega) (by omega) (by omega)) ?_
    rintro _ _ ⟨rfl, v4, rfl, hv4, hp5⟩
    show qr_W (qe L xs vb) (d + 12) qx_e242 _ (19, _, [.int (qz v4)], qw σ α κ ρ, 0, 0)
    refine qr_if_eq 32 22 rfl rfl rfl (by omega) (fun h6 => ?_) (fun h6 => ?_)
    · skip
      refine qr_iconst 33 rfl rfl ?_
      refine qr_retI rfl rfl (by decide) (by decide) ?_
      exact ⟨_, _, rfl, hI, hF0, (-1), rfl, by omega⟩
    · skip
      refine qr_aload_n 23 rfl rfl rfl ?_
      refine qr_lload_n 24 rfl rfl rfl ?_
      refine qr_bipush 26 rfl (by decide) rfl ?_
      refine qr_callN 29 rfl rfl rfl (sf_234_86p (d := d + 10) hI (by omega) (by omega)) ?_
      have hs9 : 0 ≤ σ 86 6 ∧ σ 86 6 ≤ 32 := hI.1 86 6
      rintro _ _ ⟨σ10, α11, rfl, hI12, hG13, v7, rfl, hv7, hp8⟩
      have hF14 : qFr [(86, 15), (86, 23), (86, 30), (86, 43)] [96, 110, 114] σ α σ10 α11 := qFr_t hF0 hG13 (by decide) (by decide)
      have hs15 : 0 ≤ σ10 86 43 ∧ σ10 86 43 ≤ 32 := hI12.1 86 43
      show qr_W (qe L xs vb) (d + 12) qx_e242 _ (29, _, [.int (qz v7)], qw σ10 α11 κ ρ, 0, 0)
      refine qr_if_ne 34 32 rfl rfl rfl (by omega) (fun h16 => ?_) (fun h16 => ?_)
      · skip
        refine qr_aload_n 35 rfl rfl rfl ?_
        refine qr_iconst 36 rfl rfl ?_
        refine qr_iconst 37 rfl rfl ?_
        refine qr_iload_n 38 rfl rfl rfl ?_
        refine qr_iload 40 rfl rfl rfl ?_
        have hs17 : 0 ≤ σ10 86 43 ∧ σ10 86 43 ≤ 32 := hI12.1 86 43
        have hs18 : 0 ≤ σ10 86 6 ∧ σ10 86 6 ≤ 32 := hI12.1 86 6
        have hs19 : σ10 86 6 = (σ 86 6) := (hG13.1 86 6 (by decide)).trans rfl
        refine qr_callN 43 rfl rfl rfl (sf_243_86t0 (d := d + 0) hI12 (by omega) (by omega) (by omega) (by omega) (by omega) (by omega)) ?_
        rintro _ _ ⟨σ21, α22, rfl, hI23, hG24, v20, rfl, hv20⟩
        have hF25 : qFr [(86, 15), (86, 23), (86, 30), (86, 43)] [96, 110, 114] σ α σ21 α22 := qFr_t hF14 hG24 (by decide) (by decide)
        show qr_W (qe L xs vb) (d + 12) qx_e242 _ (43, _, [.int (qz v20)], qw σ21 α22 κ ρ, 0, 0)
        refine qr_if_ne 49 46 rfl rfl rfl (by omega) (fun h26 => ?_) (fun h26 => ?_)
        · skip
          refine qr_iconst 50 rfl rfl ?_
          refine qr_istore _ 52 rfl (by decide) rfl rfl ?_
          refine qr_iconst 53 rfl rfl ?_
          refine qr_istore _ 55 rfl (by decide) rfl rfl ?_
          have hL103 : ∀ (n : Nat) (ls : qm_L) (u98 u100 : Int), 6 - u100 < (n : Int) → qm_get ls 0 = some (.ref 86) → qm_get ls 5 = some (.int (qz u98)) → qm_get ls 6 = some (.int (qz u100)) → ((-2147483648) ≤ u98 ∧ u98 ≤ 2147483647) → (0 ≤ u100 ∧ u100 ≤ 6) → qr_W (qe L xs vb) (d + 12) qx_e242 (fun r w' => ∃ σ' α', w' = qw σ' α' κ ρ ∧ qI σ' α' κ ρ ∧ qFr [(86, 15), (86, 23), (86, 30), (86, 43)] [96, 110, 114] σ α σ' α' ∧ ∃ v : Int, r = some (.int (qz v)) ∧ ((-2147483648) ≤ v ∧ v ≤ 2147483647)) (55, ls, [], qw σ21 α22 κ ρ, 0, 0) := by
            intro n
            induction n with
            | zero => intro ls u98 u100 hm g96 g97 g99 hf101 hf102; exact False.elim (by omega)
            | succ n ih104 =>
              intro ls u98 u100 hm g96 g97 g99 hf101 hf102
              refine qr_iload 57 rfl g99 rfl ?_
              refine qr_aload_n 58 rfl g96 rfl ?_
              refine qr_get 61 rfl rfl rfl (by decide) rfl ?_
              refine qy_v (σ10 86 43) ((hG24.1 86 43 (by decide)).trans rfl) ?_
              refine qr_icmp_ge 87 64 rfl rfl rfl (by omega) (by omega) (fun h105 => ?_) (fun h105 => ?_)
              · skip
                refine qr_iload 89 rfl g97 rfl ?_
                refine qr_retI rfl rfl (by decide) (by decide) ?_
                exact ⟨_, _, rfl, hI23, hF25, u98, rfl, by omega⟩
              · skip
                refine qr_bipush 66 rfl (by decide) rfl ?_
                refine qr_iload 68 rfl g97 rfl ?_
                refine qr_imul 69 rfl rfl ?_
                refine qy_can (fun v106 hv106 => ?_)
                refine qr_aload_n 70 rfl g96 rfl ?_
                refine qr_get 73 rfl rfl rfl (by decide) rfl ?_
                refine qr_iload 75 rfl g99 rfl ?_
                refine qr_iaload 76 rfl rfl (by omega) (by decide) rfl ?_
                refine qr_topI (fun v107 hv107 => ?_)
                have hs108 : 0 ≤ v107 ∧ v107 ≤ 5 := by rw [hv107]; exact hI23.2.1 114 _ (show _ < 6 by omega)
                refine qr_iadd 77 rfl rfl ?_
                refine qy_can (fun v109 hv109 => ?_)
                refine qr_iconst 78 rfl rfl ?_
                refine qr_iadd 79 rfl rfl ?_
                refine qy_can (fun v110 hv110 => ?_)
                refine qr_istore _ 81 rfl (by decide) rfl rfl ?_
                refine qr_iinc _ 84 rfl (qm_gk g99 (by decide) (Or.inl (by decide))) (by decide) rfl rfl ?_
                refine qr_goto 55 rfl rfl ?_
                exact ih104 _ v110 (u100 + 1) (by omega) (qm_gk (qm_gk g96 (by decide) (Or.inl (by decide))) (by decide) (Or.inl (by decide))) (qm_gk (qm_ge _ _ _) (by decide) (Or.inr rfl)) (qm_ge _ _ _) (by omega) (by omega)
          exact hL103 ((6 - 0 + 1 : Int)).toNat _ 0 0 (by omega) rfl rfl rfl (by omega) (by omega)
        · skip
          refine qr_bipush 48 rfl (by decide) rfl ?_
          refine qr_retI rfl rfl (by decide) (by decide) ?_
          exact ⟨_, _, rfl, hI23, hF25, (-2), rfl, by omega⟩
      · skip
        refine qr_iconst 33 rfl rfl ?_
        refine qr_retI rfl rfl (by decide) (by decide) ?_
        exact ⟨_, _, rfl, hI12, hF14, (-1), rfl, by omega⟩
