set_option maxHeartbeats 4000000 in
set_option maxRecDepth 20000 in
/-- OneRoofModel.orders -/
theorem sf_243_86t3 {L : Nat} {xs : Nat → Int} {vb : Bool} {d : Nat} {σ α : Nat → Nat → Int} {κ : Nat → Option Nat} {ρ : Nat} {x2 : Int} {x3 : Int} {x4 : Int} (hI : qI σ α κ ρ) (r2 : (-2147483648) ≤ x2 ∧ x2 ≤ 2147483647) (r3 : (-2147483648) ≤ x3 ∧ x3 ≤ 2147483647) (r4 : 100 ≤ x4 ∧ x4 ≤ 2499) (p0 : 1 ≤ σ 86 6) (p1 : σ 86 43 ≤ 6) (p2 : 3 ≤ σ 86 43) : qm_T (qe L xs vb) (d + 9) 243 [.ref 86, .int (qz 3), .int (qz x2), .int (qz x3), .int (qz x4)] (qw σ α κ ρ) (fun r w' => ∃ σ' α', w' = qw σ' α' κ ρ ∧ qI σ' α' κ ρ ∧ qFr [(86, 15), (86, 23), (86, 30)] [96, 114] σ α σ' α' ∧ ∃ v : Int, r = some (.int (qz v)) ∧ (0 ≤ v ∧ v ≤ 1)) := by
  refine qr_start (d := d + 8) qv_e243 (Nat.le_of_ble_eq_true rfl) ?_
  show qr_W (qe L xs vb) (d + 8) qx_e243 _ (0, [(0, .ref 86), (1, .int (qz 3)), (2, .int (qz x2)), (3, .int (qz x3)), (4, .int (qz x4))], [], _, 0, 0)
  have hF0 := qFr_rf [(86, 15), (86, 23), (86, 30)] [96, 114] σ α
  have hz86_6 : 0 ≤ σ 86 6 ∧ σ 86 6 ≤ 32 := hI.1 86 6
  have hz86_43 : 0 ≤ σ 86 43 ∧ σ 86 43 ≤ 32 := hI.1 86 43
  refine qr_iload_n 1 rfl rfl rfl ?_
  refine qr_aload_n 2 rfl rfl rfl ?_
  refine qr_get 5 rfl rfl rfl (by decide) rfl ?_
  refine qr_icmp_ne 10 8 rfl rfl rfl (by decide) (qrg hz86_43 (by decide) (by decide)) (fun h1 => ?_) (fun h1 => ?_)
  · skip
    refine qr_iconst 11 rfl rfl ?_
    refine qr_istore _ 13 rfl (by decide) rfl rfl ?_
    have hL288 : ∀ (n : Nat) (ls : qm_L) (u280 : Int) (σ281 α282 : Nat → Nat → Int), 6 - u280 < (n : Int) → qm_get ls 0 = some (.ref 86) → qm_get ls 1 = some (.int (qz 3)) → qm_get ls 2 = some (.int (qz x2)) → qm_get ls 3 = some (.int (qz x3)) → qm_get ls 4 = some (.int (qz x4)) → qm_get ls 5 = some (.int (qz u280)) → (0 ≤ u280 ∧ u280 ≤ 6) → qI σ281 α282 κ ρ → qFr [(86, 15), (86, 23), (86, 30)] [96, 114] σ α σ281 α282 → σ281 86 6 = (σ 86 6) → σ281 86 43 = (σ 86 43) → qr_W (qe L xs vb) (d + 8) qx_e243 (fun r w' => ∃ σ' α', w' = qw σ' α' κ ρ ∧ qI σ' α' κ ρ ∧ qFr [(86, 15), (86, 23), (86, 30)] [96, 114] σ α σ' α' ∧ ∃ v : Int, r = some (.int (qz v)) ∧ (0 ≤ v ∧ v ≤ 1)) (13, ls, [], qw σ281 α282 κ ρ, 0, 0) := by
      intro n
      induction n with
      | zero => intro ls u280 σ281 α282 hm g274 g275 g276 g277 g278 g279 hf287 hI283 hF284 hk285 hk286; exact False.elim (by omega)
      | succ n ih289 =>
        intro ls u280 σ281 α282 hm g274 g275 g276 g277 g278 g279 hf287 hI283 hF284 hk285 hk286
        refine qr_iload 15 rfl g279 rfl ?_
        refine qr_aload_n 16 rfl g274 rfl ?_
        refine qr_get 19 rfl rfl rfl (by decide) rfl ?_
        refine qy_v (σ 86 43) ((hk286).trans rfl) ?_
        refine qr_icmp_ge 81 22 rfl rfl rfl (qrg hf287 (by decide) (by decide)) (qrg hz86_43 (by decide) (by decide)) (fun h290 => ?_) (fun h290 => ?_)
        · skip
          refine qr_iconst 82 rfl rfl ?_
          refine qr_retZ rfl rfl (Or.inl rfl) (by decide) (by decide) ?_
          exact ⟨_, _, rfl, hI283, hF284, 0, rfl, (by decide)⟩
        · skip
          refine qr_iload_n 23 rfl g276 rfl ?_
          refine qr_iload 25 rfl g279 rfl ?_
          refine qr_ishr 26 rfl rfl ?_
          refine qy_can (fun v291 hv291 => ?_)
          refine qr_iconst 27 rfl rfl ?_
          refine qr_iand 28 rfl rfl ?_
          refine qy_andr (by omega) (fun v292 hv292 => ?_)
          refine qr_iconst 29 rfl rfl ?_
          refine qr_icmp_ne 35 32 rfl rfl rfl (by omega) (by decide) (fun h293 => ?_) (fun h293 => ?_)
          · skip
            refine qr_aload_n 36 rfl g274 rfl ?_
            refine qr_get 39 rfl rfl rfl (by decide) rfl ?_
            refine qr_iload_n 40 rfl g275 rfl ?_
            refine qr_iload 42 rfl g279 rfl ?_
            refine qr_iastore 43 rfl (by decide) rfl (by decide) (by decide) rfl ?_
            refine qy_wA (qw_r α282 114 (qzu (α282 114) (3 : Int).toNat u280)) rfl (fun α294 e295 => ?_)
            have hI296 : qI σ281 α294 κ ρ := by rw [e295]; exact qI_r hI283 114 _ rfl (show 0 ≤ u280 ∧ u280 ≤ 5 by omega)
            have hF297 : qFr [(86, 15), (86, 23), (86, 30)] [96, 114] σ α σ281 α294 := by rw [e295]; exact qFr_r hF284 114 _ (by decide)
            refine qr_aload_n 44 rfl g274 rfl ?_
            refine qr_iload_n 45 rfl g275 rfl ?_
            refine qr_iload_n 46 rfl g277 rfl ?_
            refine qr_iload 48 rfl g278 rfl ?_
            have hs298 : 0 ≤ σ281 86 43 ∧ σ281 86 43 ≤ 32 := hI296.1 86 43
            have hs299 : σ281 86 43 = (σ 86 43) := (hk286).trans rfl
            have hs300 : 0 ≤ σ281 86 6 ∧ σ281 86 6 ≤ 32 := hI296.1 86 6
            have hs301 : σ281 86 6 = (σ 86 6) := (hk285).trans rfl
            refine qr_callN 51 rfl rfl rfl (sf_244_86 (d := d + 2) hI296 (by decide) r3 (qrg r4 (by decide) (by decide)) (by omega) (by omega)) ?_
            rintro _ _ ⟨σ303, α304, rfl, hI305, hG306, v302, rfl, hv302⟩
            have hF307 : qFr [(86, 15), (86, 23), (86, 30)] [96, 114] σ α σ303 α304 := qFr_t hF297 hG306 (by decide) (by decide)
            show qr_W (qe L xs vb) (d + 8) qx_e243 _ (51, _, [.int (qz v302)], qw σ303 α304 κ ρ, 0, 0)
            refine qr_if_ne 75 54 rfl rfl rfl (qrg hv302 (by decide) (by decide)) (fun h308 => ?_) (fun h308 => ?_)
            · skip
              refine qr_iinc _ 78 rfl g279 (by decide) rfl rfl ?_
              refine qr_goto 13 rfl rfl ?_
              exact ih289 _ (u280 + 1) σ303 α304 (by omega) (qm_gk g274 (by decide) (Or.inl (by decide))) (qm_gk g275 (by decide) (Or.inl (by decide))) (qm_gk g276 (by decide) (Or.inl (by decide))) (qm_gk g277 (by decide) (Or.inl (by decide))) (qm_gk g278 (by decide) (Or.inr rfl)) (qm_ge _ _ _) (by omega) hI305 hF307 ((hG306.1 86 6 (by decide)).trans ((hk285).trans rfl)) ((hG306.1 86 43 (by decide)).trans ((hk286).trans rfl))
            · skip
              refine qr_aload_n 55 rfl g274 rfl ?_
              refine qr_iload_n 56 rfl g275 rfl ?_
              refine qr_iconst 57 rfl rfl ?_
              refine qr_iadd 58 rfl rfl ?_
              refine qy_v 4 rfl ?_
              refine qr_iload_n 59 rfl g276 rfl ?_
              refine qr_iconst 60 rfl rfl ?_
              refine qr_iload 62 rfl g279 rfl ?_
              refine qr_ishl 63 rfl rfl ?_
              refine qy_shl1 (N := 5) (by omega) (fun v309 hv309 => ?_)
              refine qr_ior 64 rfl rfl ?_
              refine qy_can (fun v310 hv310 => ?_)
              refine qr_iload_n 65 rfl g277 rfl ?_
              refine qr_iload 67 rfl g278 rfl ?_
              have hs311 : 0 ≤ σ303 86 43 ∧ σ303 86 43 ≤ 32 := hI305.1 86 43
              have hs312 : σ303 86 43 = (σ 86 43) := (hG306.1 86 43 (by decide)).trans ((hk286).trans rfl)
              have hs313 : 0 ≤ σ303 86 6 ∧ σ303 86 6 ≤ 32 := hI305.1 86 6
              have hs314 : σ303 86 6 = (σ 86 6) := (hG306.1 86 6 (by decide)).trans ((hk285).trans rfl)
              refine qr_callN 70 rfl rfl rfl (sf_243_86t4 (d := d + 0) hI305 hv310 r3 r4 (by omega) (by omega) (by omega)) ?_
              rintro _ _ ⟨σ316, α317, rfl, hI318, hG319, v315, rfl, hv315⟩
              have hF320 : qFr [(86, 15), (86, 23), (86, 30)] [96, 114] σ α σ316 α317 := qFr_t hF307 hG319 (by decide) (by decide)
              show qr_W (qe L xs vb) (d + 8) qx_e243 _ (70, _, [.int (qz v315)], qw σ316 α317 κ ρ, 0, 0)
              refine qr_if_eq 75 73 rfl rfl rfl (qrg hv315 (by decide) (by decide)) (fun h321 => ?_) (fun h321 => ?_)
              · skip
                refine qr_iinc _ 78 rfl g279 (by decide) rfl rfl ?_
                refine qr_goto 13 rfl rfl ?_
                exact ih289 _ (u280 + 1) σ316 α317 (by omega) (qm_gk g274 (by decide) (Or.inl (by decide))) (qm_gk g275 (by decide) (Or.inl (by decide))) (qm_gk g276 (by decide) (Or.inl (by decide))) (qm_gk g277 (by decide) (Or.inl (by decide))) (qm_gk g278 (by decide) (Or.inr rfl)) (qm_ge _ _ _) (by omega) hI318 hF320 ((hG319.1 86 6 (by decide)).trans ((hG306.1 86 6 (by decide)).trans ((hk285).trans rfl))) ((hG319.1 86 43 (by decide)).trans ((hG306.1 86 43 (by decide)).trans ((hk286).trans rfl)))
              · skip
                refine qr_iconst 74 rfl rfl ?_
                refine qr_retZ rfl rfl (Or.inr rfl) (by decide) (by decide) ?_
                exact ⟨_, _, rfl, hI318, hF320, 1, rfl, (by decide)⟩
          · skip
            refine qr_goto 75 rfl rfl ?_
            refine qr_iinc _ 78 rfl g279 (by decide) rfl rfl ?_
            refine qr_goto 13 rfl rfl ?_
            exact ih289 _ (u280 + 1) σ281 α282 (by omega) (qm_gk g274 (by decide) (Or.inl (by decide))) (qm_gk g275 (by decide) (Or.inl (by decide))) (qm_gk g276 (by decide) (Or.inl (by decide))) (qm_gk g277 (by decide) (Or.inl (by decide))) (qm_gk g278 (by decide) (Or.inr rfl)) (qm_ge _ _ _) (by omega) hI283 hF284 ((hk285).trans rfl) ((hk286).trans rfl)
    exact hL288 ((6 - 0 + 1 : Int)).toNat _ 0 σ α (by omega) rfl rfl rfl rfl rfl rfl (by decide) hI hF0 (rfl) (rfl)
  · skip
    refine qr_iconst 9 rfl rfl ?_
    refine qr_retZ rfl rfl (Or.inr rfl) (by decide) (by decide) ?_
    exact ⟨_, _, rfl, hI, hF0, 1, rfl, (by decide)⟩

set_option maxHeartbeats 4000000 in
set_option maxRecDepth 20000 in
/-- OneRoofModel.orders -/
theorem sf_243_86t2 {L : Nat} {xs : Nat → Int} {vb : Bool} {d : Nat} {σ α : Nat → Nat → Int} {κ : Nat → Option Nat} {ρ : Nat} {x2 : Int} {x3 : Int} {x4 : Int} (hI : qI σ α κ ρ) (r2 : (-2147483648) ≤ x2 ∧ x2 ≤ 2147483647) (r3 : (-2147483648) ≤ x3 ∧ x3 ≤ 2147483647) (r4 : 100 ≤ x4 ∧ x4 ≤ 2499) (p0 : 1 ≤ σ 86 6) (p1 : σ 86 43 ≤ 6) (p2 : 2 ≤ σ 86 43) : qm_T (qe L xs vb) (d + 10) 243 [.ref 86, .int (qz 2), .int (qz x2), .int (qz x3), .int (qz x4)] (qw σ α κ ρ) (fun r w' => ∃ σ' α', w' = qw σ' α' κ ρ ∧ qI σ' α' κ ρ ∧ qFr [(86, 15), (86, 23), (86, 30)] [96, 114] σ α σ' α' ∧ ∃ v : Int, r = some (.int (qz v)) ∧ (0 ≤ v ∧ v ≤ 1)) := by
  refine qr_start (d := d + 9) qv_e243 (Nat.le_of_ble_eq_true rfl) ?_
  show qr_W (qe L xs vb) (d + 9) qx_e243 _ (0, [(0, .ref 86), (1, .int (qz 2)), (2, .int (qz x2)), (3, .int (qz x3)), (4, .int (qz x4))], [], _, 0, 0)
  have hF0 := qFr_rf [(86, 15), (86, 23), (86, 30)] [96, 114] σ α
  have hz86_6 : 0 ≤ σ 86 6 ∧ σ 86 6 ≤ 32 := hI.1 86 6
  have hz86_43 : 0 ≤ σ 86 43 ∧ σ 86 43 ≤ 32 := hI.1 86 43
  refine qr_iload_n 1 rfl rfl rfl ?_
  refine qr_aload_n 2 rfl rfl rfl ?_
  refine qr_get 5 rfl rfl rfl (by decide) rfl ?_
  refine qr_icmp_ne 10 8 rfl rfl rfl (by decide) (qrg hz86_43 (by decide) (by decide)) (fun h1 => ?_) (fun h1 => ?_)
  · skip
    refine qr_iconst 11 rfl rfl ?_
    refine qr_istore _ 13 rfl (by decide) rfl rfl ?_
    have hL288 : ∀ (n : Nat) (ls : qm_L) (u280 : Int) (σ281 α282 : Nat → Nat → Int), 6 - u280 < (n : Int) → qm_get ls 0 = some (.ref 86) → qm_get ls 1 = some (.int (qz 2)) → qm_get ls 2 = some (.int (qz x2)) → qm_get ls 3 = some (.int (qz x3)) → qm_get ls 4 = some (.int (qz x4)) → qm_get ls 5 = some (.int (qz u280)) → (0 ≤ u280 ∧ u280 ≤ 6) → qI σ281 α282 κ ρ → qFr [(86, 15), (86, 23), (86, 30)] [96, 114] σ α σ281 α282 → σ281 86 6 = (σ 86 6) → σ281 86 43 = (σ 86 43) → qr_W (qe L xs vb) (d + 9) qx_e243 (fun r w' => ∃ σ' α', w' = qw σ' α' κ ρ ∧ qI σ' α' κ ρ ∧ qFr [(86, 15), (86, 23), (86, 30)] [96, 114] σ α σ' α' ∧ ∃ v : Int, r = some (.int (qz v)) ∧ (0 ≤ v ∧ v ≤ 1)) (13, ls, [], qw σ281 α282 κ ρ, 0, 0) := by
      intro n
      induction n with
      | zero => intro ls u280 σ281 α282 hm g274 g275 g276 g277 g278 g279 hf287 hI283 hF284 hk285 hk286; exact False.elim (by omega)
      | succ n ih289 =>
        intro ls u280 σ281 α282 hm g274 g275 g276 g277 g278 g279 hf287 hI283 hF284 hk285 hk286
        refine qr_iload 15 rfl g279 rfl ?_
        refine qr_aload_n 16 rfl g274 rfl ?_
        refine qr_get 19 rfl rfl rfl (by decide) rfl ?_
        refine qy_v (σ 86 43) ((hk286).trans rfl) ?_
        refine qr_icmp_ge 81 22 rfl rfl rfl (qrg hf287 (by decide) (by decide)) (qrg hz86_43 (by decide) (by decide)) (fun h290 => ?_) (fun h290 => ?_)
        · skip
          refine qr_iconst 82 rfl rfl ?_
          refine qr_retZ rfl rfl (Or.inl rfl) (by decide) (by decide) ?_
          exact ⟨_, _, rfl, hI283, hF284, 0, rfl, (by decide)⟩
        · skip
          refine qr_iload_n 23 rfl g276 rfl ?_
          refine qr_iload 25 rfl g279 rfl ?_
          refine qr_ishr 26 rfl rfl ?_
          refine qy_can (fun v291 hv291 => ?_)
          refine qr_iconst 27 rfl rfl ?_
          refine qr_iand 28 rfl rfl ?_
          refine qy_andr (by omega) (fun v292 hv292 => ?_)
          refine qr_iconst 29 rfl rfl ?_
          refine qr_icmp_ne 35 32 rfl rfl rfl (by omega) (by decide) (fun h293 => ?_) (fun h293 => ?_)
          · skip
            refine qr_aload_n 36 rfl g274 rfl ?_
            refine qr_get 39 rfl rfl rfl (by decide) rfl ?_
            refine qr_iload_n 40 rfl g275 rfl ?_
            refine qr_iload 42 rfl g279 rfl ?_
            refine qr_iastore 43 rfl (by decide) rfl (by decide) (by decide) rfl ?_
            refine qy_wA (qw_r α282 114 (qzu (α282 114) (2 : Int).toNat u280)) rfl (fun α294 e295 => ?_)
            have hI296 : qI σ281 α294 κ ρ := by rw [e295]; exact qI_r hI283 114 _ rfl (show 0 ≤ u280 ∧ u280 ≤ 5 by omega)
            have hF297 : qFr [(86, 15), (86, 23), (86, 30)] [96, 114] σ α σ281 α294 := by rw [e295]; exact qFr_r hF284 114 _ (by decide)
            refine qr_aload_n 44 rfl g274 rfl ?_
            refine qr_iload_n 45 rfl g275 rfl ?_
            refine qr_iload_n 46 rfl g277 rfl ?_
            refine qr_iload 48 rfl g278 rfl ?_
            have hs298 : 0 ≤ σ281 86 43 ∧ σ281 86 43 ≤ 32 := hI296.1 86 43
            have hs299 : σ281 86 43 = (σ 86 43) := (hk286).trans rfl
            have hs300 : 0 ≤ σ281 86 6 ∧ σ281 86 6 ≤ 32 := hI296.1 86 6
            have hs301 : σ281 86 6 = (σ 86 6) := (hk285).trans rfl
            refine qr_callN 51 rfl rfl rfl (sf_244_86 (d := d + 3) hI296 (by decide) r3 (qrg r4 (by decide) (by decide)) (by omega) (by omega)) ?_
            rintro _ _ ⟨σ303, α304, rfl, hI305, hG306, v302, rfl, hv302⟩
            have hF307 : qFr [(86, 15), (86, 23), (86, 30)] [96, 114] σ α σ303 α304 := qFr_t hF297 hG306 (by decide) (by decide)
            show qr_W (qe L xs vb) (d + 9) qx_e243 _ (51, _, [.int (qz v302)], qw σ303 α304 κ ρ, 0, 0)
            refine qr_if_ne 75 54 rfl rfl rfl (qrg hv302 (by decide) (by decide)) (fun h308 => ?_) (fun h308 => ?_)
            · skip
              refine qr_iinc _ 78 rfl g279 (by decide) rfl rfl ?_
              refine qr_goto 13 rfl rfl ?_
              exact ih289 _ (u280 + 1) σ303 α304 (by omega) (qm_gk g274 (by decide) (Or.inl (by decide))) (qm_gk g275 (by decide) (Or.inl (by decide))) (qm_gk g276 (by decide) (Or.inl (by decide))) (qm_gk g277 (by decide) (Or.inl (by decide))) (qm_gk g278 (by decide) (Or.inr rfl)) (qm_ge _ _ _) (by omega) hI305 hF307 ((hG306.1 86 6 (by decide)).trans ((hk285).trans rfl)) ((hG306.1 86 43 (by decide)).trans ((hk286).trans rfl))
            · skip
              refine qr_aload_n 55 rfl g274 rfl ?_
              refine qr_iload_n 56 rfl g275 rfl ?_
              refine qr_iconst 57 rfl rfl ?_
              refine qr_iadd 58 rfl rfl ?_
              refine qy_v 3 rfl ?_
              refine qr_iload_n 59 rfl g276 rfl ?_
              refine qr_iconst 60 rfl rfl ?_
              refine qr_iload 62 rfl g279 rfl ?_
              refine qr_ishl 63 rfl rfl ?_
              refine qy_shl1 (N := 5) (by omega) (fun v309 hv309 => ?_)
              refine qr_ior 64 rfl rfl ?_
              refine qy_can (fun v310 hv310 => ?_)
              refine qr_iload_n 65 rfl g277 rfl ?_
              refine qr_iload 67 rfl g278 rfl ?_
              have hs311 : 0 ≤ σ303 86 43 ∧ σ303 86 43 ≤ 32 := hI305.1 86 43
              have hs312 : σ303 86 43 = (σ 86 43) := (hG306.1 86 43 (by decide)).trans ((hk286).trans rfl)
              have hs313 : 0 ≤ σ303 86 6 ∧ σ303 86 6 ≤ 32 := hI305.1 86 6
              have hs314 : σ303 86 6 = (σ 86 6) := (hG306.1 86 6 (by decide)).trans ((hk285).trans rfl)
              refine qr_callN 70 rfl rfl rfl (sf_243_86t3 (d := d + 0) hI305 hv310 r3 r4 (by omega) (by omega) (by omega)) ?_
              rintro _ _ ⟨σ316, α317, rfl, hI318, hG319, v315, rfl, hv315⟩
              have hF320 : qFr [(86, 15), (86, 23), (86, 30)] [96, 114] σ α σ316 α317 := qFr_t hF307 hG319 (by decide) (by decide)
              show qr_W (qe L xs vb) (d + 9) qx_e243 _ (70, _, [.int (qz v315)], qw σ316 α317 κ ρ, 0, 0)
              refine qr_if_eq 75 73 rfl rfl rfl (qrg hv315 (by decide) (by decide)) (fun h321 => ?_) (fun h321 => ?_)
              · skip
                refine qr_iinc _ 78 rfl g279 (by decide) rfl rfl ?_
                refine qr_goto 13 rfl rfl ?_
                exact ih289 _ (u280 + 1) σ316 α317 (by omega) (qm_gk g274 (by decide) (Or.inl (by decide))) (qm_gk g275 (by decide) (Or.inl (by decide))) (qm_gk g276 (by decide) (Or.inl (by decide))) (qm_gk g277 (by decide) (Or.inl (by decide))) (qm_gk g278 (by decide) (Or.inr rfl)) (qm_ge _ _ _) (by omega) hI318 hF320 ((hG319.1 86 6 (by decide)).trans ((hG306.1 86 6 (by decide)).trans ((hk285).trans rfl))) ((hG319.1 86 43 (by decide)).trans ((hG306.1 86 43 (by decide)).trans ((hk286).trans rfl)))
              · skip
                refine qr_iconst 74 rfl rfl ?_
                refine qr_retZ rfl rfl (Or.inr rfl) (by decide) (by decide) ?_
                exact ⟨_, _, rfl, hI318, hF320, 1, rfl, (by decide)⟩
          · skip
            refine qr_goto 75 rfl rfl ?_
            refine qr_iinc _ 78 rfl g279 (by decide) rfl rfl ?_
            refine qr_goto 13 rfl rfl ?_
            exact ih289 _ (u280 + 1) σ281 α282 (by omega) (qm_gk g274 (by decide) (Or.inl (by decide))) (qm_gk g275 (by decide) (Or.inl (by decide))) (qm_gk g276 (by decide) (Or.inl (by decide))) (qm_gk g277 (by decide) (Or.inl (by decide))) (qm_gk g278 (by decide) (Or.inr rfl)) (qm_ge _ _ _) (by omega) hI283 hF284 ((hk285).trans rfl) ((hk286).trans rfl)
    exact hL288 ((6 - 0 + 1 : Int)).toNat _ 0 σ α (by omega) rfl rfl rfl rfl rfl rfl (by decide) hI hF0 (rfl) (rfl)
  · skip
    refine qr_iconst 9 rfl rfl ?_
    refine qr_retZ rfl rfl (Or.inr rfl) (by decide) (by decide) ?_
    exact ⟨_, _, rfl, hI, hF0, 1, rfl, (by decide)⟩

set_option maxHeartbeats 4000000 in
set_option maxRecDepth 20000 in
/-- OneRoofModel.orders -/
theorem sf_243_86t1 {L : Nat} {xs : Nat → Int} {vb : Bool} {d : Nat} {σ α : Nat → Nat → Int} {κ : Nat → Option Nat} {ρ : Nat} {x2 : Int} {x3 : Int} {x4 : Int} (hI : qI σ α κ ρ) (r2 : (-2147483648) ≤ x2 ∧ x2 ≤ 2147483647) (r3 : (-2147483648) ≤ x3 ∧ x3 ≤ 2147483647) (r4 : 100 ≤ x4 ∧ x4 ≤ 2499) (p0 : 1 ≤ σ 86 6) (p1 : σ 86 43 ≤ 6) (p2 : 1 ≤ σ 86 43) : qm_T (qe L xs vb) (d + 11) 243 [.ref 86, .int (qz 1), .int (qz x2), .int (qz x3), .int (qz x4)] (qw σ α κ ρ) (fun r w' => ∃ σ' α', w' = qw σ' α' κ ρ ∧ qI σ' α' κ ρ ∧ qFr [(86, 15), (86, 23), (86, 30)] [96, 114] σ α σ' α' ∧ ∃ v : Int, r = some (.int (qz v)) ∧ (0 ≤ v ∧ v ≤ 1)) := by
  refine qr_start (d := d + 10) qv_e243 (Nat.le_of_ble_eq_true rfl) ?_
  show qr_W (qe L xs vb) (d + 10) qx_e243 _ (0, [(0, .ref 86), (1, .int (qz 1)), (2, .int (qz x2)), (3, .int (qz x3)), (4, .int (qz x4))], [], _, 0, 0)
  have hF0 := qFr_rf [(86, 15), (86, 23), (86, 30)] [96, 114] σ α
  have hz86_6 : 0 ≤ σ 86 6 ∧ σ 86 6 ≤ 32 := hI.1 86 6
  have hz86_43 : 0 ≤ σ 86 43 ∧ σ 86 43 ≤ 32 := hI.1 86 43
  refine qr_iload_n 1 rfl rfl rfl ?_
  refine qr_aload_n 2 rfl rfl rfl ?_
  refine qr_get 5 rfl rfl rfl (by decide) rfl ?_
  refine qr_icmp_ne 10 8 rfl rfl rfl (by decide) (qrg hz86_43 (by decide) (by decide)) (fun h1 => ?_) (fun h1 => ?_)
  · skip
    refine qr_iconst 11 rfl rfl ?_
    refine qr_istore _ 13 rfl (by decide) rfl rfl ?_
    have hL288 : ∀ (n : Nat) (ls : qm_L) (u280 : Int) (σ281 α282 : Nat → Nat → Int), 6 - u280 < (n : Int) → qm_get ls 0 = some (.ref 86) → qm_get ls 1 = some (.int (qz 1)) → qm_get ls 2 = some (.int (qz x2)) → qm_get ls 3 = some (.int (qz x3)) → qm_get ls 4 = some (.int (qz x4)) → qm_get ls 5 = some (.int (qz u280)) → (0 ≤ u280 ∧ u280 ≤ 6) → qI σ281 α282 κ ρ → qFr [(86, 15), (86, 23), (86, 30)] [96, 114] σ α σ281 α282 → σ281 86 6 = (σ 86 6) → σ281 86 43 = (σ 86 43) → qr_W (qe L xs vb) (d + 10) qx_e243 (fun r w' => ∃ σ' α', w' = qw σ' α' κ ρ ∧ qI σ' α' κ ρ ∧ qFr [(86, 15), (86, 23), (86, 30)] [96, 114] σ α σ' α' ∧ ∃ v : Int, r = some (.int (qz v)) ∧ (0 ≤ v ∧ v ≤ 1)) (13, ls, [], qw σ281 α282 κ ρ, 0, 0) := by
      intro n
      induction n with
      | zero => intro ls u280 σ281 α282 hm g274 g275 g276 g277 g278 g279 hf287 hI283 hF284 hk285 hk286; exact False.elim (by omega)
      | succ n ih289 =>
        intro ls u280 σ281 α282 hm g274 g275 g276 g277 g278 g279 hf287 hI283 hF284 hk285 hk286
        refine qr_iload 15 rfl g279 rfl ?_
        refine qr_aload_n 16 rfl g274 rfl ?_
        refine qr_get 19 rfl rfl rfl (by decide) rfl ?_
        refine qy_v (σ 86 43) ((hk286).trans rfl) ?_
        refine qr_icmp_ge 81 22 rfl rfl rfl (qrg hf287 (by decide) (by decide)) (qrg hz86_43 (by decide) (by decide)) (fun h290 => ?_) (fun h290 => ?_)
        · skip
          refine qr_iconst 82 rfl rfl ?_
          refine qr_retZ rfl rfl (Or.inl rfl) (by decide) (by decide) ?_
          exact ⟨_, _, rfl, hI283, hF284, 0, rfl, (by decide)⟩
        · skip
          refine qr_iload_n 23 rfl g276 rfl ?_
          refine qr_iload 25 rfl g279 rfl ?_
          refine qr_ishr 26 rfl rfl ?_
          refine qy_can (fun v291 hv291 => ?_)
          refine qr_iconst 27 rfl rfl ?_
          refine qr_iand 28 rfl rfl ?_
          refine qy_andr (by omega) (fun v292 hv292 => ?_)
          refine qr_iconst 29 rfl rfl ?_
          refine qr_icmp_ne 35 32 rfl rfl rfl (by omega) (by decide) (fun h293 => ?_) (fun h293 => ?_)
          · skip
            refine qr_aload_n 36 rfl g274 rfl ?_
            refine qr_get 39 rfl rfl rfl (by decide) rfl ?_
            refine qr_iload_n 40 rfl g275 rfl ?_
            refine qr_iload 42 rfl g279 rfl ?_
            refine qr_iastore 43 rfl (by decide) rfl (by decide) (by decide) rfl ?_
            refine qy_wA (qw_r α282 114 (qzu (α282 114) (1 : Int).toNat u280)) rfl (fun α294 e295 => ?_)
            have hI296 : qI σ281 α294 κ ρ := by rw [e295]; exact qI_r hI283 114 _ rfl (show 0 ≤ u280 ∧ u280 ≤ 5 by omega)
            have hF297 : qFr [(86, 15), (86, 23), (86, 30)] [96, 114] σ α σ281 α294 := by rw [e295]; exact qFr_r hF284 114 _ (by decide)
            refine qr_aload_n 44 rfl g274 rfl ?_
            refine qr_iload_n 45 rfl g275 rfl ?_
            refine qr_iload_n 46 rfl g277 rfl ?_
            refine qr_iload 48 rfl g278 rfl ?_
            have hs298 : 0 ≤ σ281 86 43 ∧ σ281 86 43 ≤ 32 := hI296.1 86 43
            have hs299 : σ281 86 43 = (σ 86 43) := (hk286).trans rfl
            have hs300 : 0 ≤ σ281 86 6 ∧ σ281 86 6 ≤ 32 := hI296.1 86 6
            have hs301 : σ281 86 6 = (σ 86 6) := (hk285).trans rfl
            refine qr_callN 51 rfl rfl rfl (sf_244_86 (d := d + 4) hI296 (by decide) r3 (qrg r4 (by decide) (by decide)) (by omega) (by omega)) ?_
            rintro _ _ ⟨σ303, α304, rfl, hI305, hG306, v302, rfl, hv302⟩
            have hF307 : qFr [(86, 15), (86, 23), (86, 30)] [96, 114] σ α σ303 α304 := qFr_t hF297 hG306 (by decide) (by decide)
            show qr_W (qe L xs vb) (d + 10) qx_e243 _ (51, _, [.int (qz v302)], qw σ303 α304 κ ρ, 0, 0)
            refine qr_if_ne 75 54 rfl rfl rfl (qrg hv302 (by decide) (by decide)) (fun h308 => ?_) (fun h308 => ?_)
            · skip
              refine qr_iinc _ 78 rfl g279 (by decide) rfl rfl ?_
              refine qr_goto 13 rfl rfl ?_
              exact ih289 _ (u280 + 1) σ303 α304 (by omega) (qm_gk g274 (by decide) (Or.inl (by decide))) (qm_gk g275 (by decide) (Or.inl (by decide))) (qm_gk g276 (by decide) (Or.inl (by decide))) (qm_gk g277 (by decide) (Or.inl (by decide))) (qm_gk g278 (by decide) (Or.inr rfl)) (qm_ge _ _ _) (by omega) hI305 hF307 ((hG306.1 86 6 (by decide)).trans ((hk285).trans rfl)) ((hG306.1 86 43 (by decide)).trans ((hk286).trans rfl))
            · skip
              refine qr_aload_n 55 rfl g274 rfl ?_
              refine qr_iload_n 56 rfl g275 rfl ?_
              refine qr_iconst 57 rfl rfl ?_
              refine qr_iadd 58 rfl rfl ?_
              refine qy_v 2 rfl ?_
              refine qr_iload_n 59 rfl g276 rfl ?_
              refine qr_iconst 60 rfl rfl ?_
              refine qr_iload 62 rfl g279 rfl ?_
              refine qr_ishl 63 rfl rfl ?_
              refine qy_shl1 (N := 5) (by omega) (fun v309 hv309 => ?_)
              refine qr_ior 64 rfl rfl ?_
              refine qy_can (fun v310 hv310 => ?_)
              refine qr_iload_n 65 rfl g277 rfl ?_
              refine qr_iload 67 rfl g278 rfl ?_
              have hs311 : 0 ≤ σ303 86 43 ∧ σ303 86 43 ≤ 32 := hI305.1 86 43
              have hs312 : σ303 86 43 = (σ 86 43) := (hG306.1 86 43 (by decide)).trans ((hk286).trans rfl)
              have hs313 : 0 ≤ σ303 86 6 ∧ σ303 86 6 ≤ 32 := hI305.1 86 6
              have hs314 : σ303 86 6 = (σ 86 6) := (hG306.1 86 6 (by decide)).trans ((hk285).trans rfl)
              refine qr_callN 70 rfl rfl rfl (sf_243_86t2 (d := d + 0) hI305 hv310 r3 r4 (by omega) (by omega) (by omega)) ?_
              rintro _ _ ⟨σ316, α317, rfl, hI318, hG319, v315, rfl, hv315⟩
              have hF320 : qFr [(86, 15), (86, 23), (86, 30)] [96, 114] σ α σ316 α317 := qFr_t hF307 hG319 (by decide) (by decide)
              show qr_W (qe L xs vb) (d + 10) qx_e243 _ (70, _, [.int (qz v315)], qw σ316 α317 κ ρ, 0, 0)
              refine qr_if_eq 75 73 rfl rfl rfl (qrg hv315 (by decide) (by decide)) (fun h321 => ?_) (fun h321 => ?_)
              · skip
                refine qr_iinc _ 78 rfl g279 (by decide) rfl rfl ?_
                refine qr_goto 13 rfl rfl ?_
                exact ih289 _ (u280 + 1) σ316 α317 (by omega) (qm_gk g274 (by decide) (Or.inl (by decide))) (qm_gk g275 (by decide) (Or.inl (by decide))) (qm_gk g276 (by decide) (Or.inl (by decide))) (qm_gk g277 (by decide) (Or.inl (by decide))) (qm_gk g278 (by decide) (Or.inr rfl)) (qm_ge _ _ _) (by omega) hI318 hF320 ((hG319.1 86 6 (by decide)).trans ((hG306.1 86 6 (by decide)).trans ((hk285).trans rfl))) ((hG319.1 86 43 (by decide)).trans ((hG306.1 86 43 (by decide)).trans ((hk286).trans rfl)))
              · skip
                refine qr_iconst 74 rfl rfl ?_
                refine qr_retZ rfl rfl (Or.inr rfl) (by decide) (by decide) ?_
                exact ⟨_, _, rfl, hI318, hF320, 1, rfl, (by decide)⟩
          · skip
            refine qr_goto 75 rfl rfl ?_
            refine qr_iinc _ 78 rfl g279 (by decide) rfl rfl ?_
            refine qr_goto 13 rfl rfl ?_
            exact ih289 _ (u280 + 1) σ281 α282 (by omega) (qm_gk g274 (by decide) (Or.inl (by decide))) (qm_gk g275 (by decide) (Or.inl (by decide))) (qm_gk g276 (by decide) (Or.inl (by decide))) (qm_gk g277 (by decide) (Or.inl (by decide))) (qm_gk g278 (by decide) (Or.inr rfl)) (qm_ge _ _ _) (by omega) hI283 hF284 ((hk285).trans rfl) ((hk286).trans rfl)
    exact hL288 ((6 - 0 + 1 : Int)).toNat _ 0 σ α (by omega) rfl rfl rfl rfl rfl rfl (by decide) hI hF0 (rfl) (rfl)
  · skip
    refine qr_iconst 9 rfl rfl ?_
    refine qr_retZ rfl rfl (Or.inr rfl) (by decide) (by decide) ?_
    exact ⟨_, _, rfl, hI, hF0, 1, rfl, (by decide)⟩

set_option maxHeartbeats 4000000 in
set_option maxRecDepth 20000 in
/-- OneRoofModel.orders -/
theorem sf_243_86t0 {L : Nat} {xs : Nat → Int} {vb : Bool} {d : Nat} {σ α : Nat → Nat → Int} {κ : Nat → Option Nat} {ρ : Nat} {x2 : Int} {x3 : Int} {x4 : Int} (hI : qI σ α κ ρ) (r2 : (-2147483648) ≤ x2 ∧ x2 ≤ 2147483647) (r3 : (-2147483648) ≤ x3 ∧ x3 ≤ 2147483647) (r4 : 100 ≤ x4 ∧ x4 ≤ 2499) (p0 : 1 ≤ σ 86 6) (p1 : σ 86 43 ≤ 6) (p2 : 0 ≤ σ 86 43) : qm_T (qe L xs vb) (d + 12) 243 [.ref 86, .int (qz 0), .int (qz x2), .int (qz x3), .int (qz x4)] (qw σ α κ ρ) (fun r w' => ∃ σ' α', w' = qw σ' α' κ ρ ∧ qI σ' α' κ ρ ∧ qFr [(86, 15), (86, 23), (86, 30)] [96, 114] σ α σ' α' ∧ ∃ v : Int, r = some (.int (qz v)) ∧ (0 ≤ v ∧ v ≤ 1)) := by
  refine qr_start (d := d + 11) qv_e243 (Nat.le_of_ble_eq_true rfl) ?_
  show qr_W (qe L xs vb) (d + 11) qx_e243 _ (0, [(0, .ref 86), (1, .int (qz 0)), (2, .int (qz x2)), (3, .int (qz x3)), (4, .int (qz x4))], [], _, 0, 0)
  have hF0 := qFr_rf [(86, 15), (86, 23), (86, 30)] [96, 114] σ α
  have hz86_6 : 0 ≤ σ 86 6 ∧ σ 86 6 ≤ 32 := hI.1 86 6
  have hz86_43 : 0 ≤ σ 86 43 ∧ σ 86 43 ≤ 32 := hI.1 86 43
  refine qr_iload_n 1 rfl rfl rfl ?_
  refine qr_aload_n 2 rfl rfl rfl ?_
  refine qr_get 5 rfl rfl rfl (by decide) rfl ?_
  refine qr_icmp_ne 10 8 rfl rfl rfl (by decide) (qrg hz86_43 (by decide) (by decide)) (fun h1 => ?_) (fun h1 => ?_)
  · skip
    refine qr_iconst 11 rfl rfl ?_
    refine qr_istore _ 13 rfl (by decide) rfl rfl ?_
    have hL288 : ∀ (n : Nat) (ls : qm_L) (u280 : Int) (σ281 α282 : Nat → Nat → Int), 6 - u280 < (n : Int) → qm_get ls 0 = some (.ref 86) → qm_get ls 1 = some (.int (qz 0)) → qm_get ls 2 = some (.int (qz x2)) → qm_get ls 3 = some (.int (qz x3)) → qm_get ls 4 = some (.int (qz x4)) → qm_get ls 5 = some (.int (qz u280)) → (0 ≤ u280 ∧ u280 ≤ 6) → qI σ281 α282 κ ρ → qFr [(86, 15), (86, 23), (86, 30)] [96, 114] σ α σ281 α282 → σ281 86 6 = (σ 86 6) → σ281 86 43 = (σ 86 43) → qr_W (qe L xs vb) (d + 11) qx_e243 (fun r w' => ∃ σ' α', w' = qw σ' α' κ ρ ∧ qI σ' α' κ ρ ∧ qFr [(86, 15), (86, 23), (86, 30)] [96, 114] σ α σ' α' ∧ ∃ v : Int, r = some (.int (qz v)) ∧ (0 ≤ v ∧ v ≤ 1)) (13, ls, [], qw σ281 α282 κ ρ, 0, 0) := by
      intro n
      induction n with
      | zero => intro ls u280 σ281 α282 hm g274 g275 g276 g277 g278 g279 hf287 hI283 hF284 hk285 hk286; exact False.elim (by omega)
      | succ n ih289 =>
        intro ls u280 σ281 α282 hm g274 g275 g276 g277 g278 g279 hf287 hI283 hF284 hk285 hk286
        refine qr_iload 15 rfl g279 rfl ?_
        refine qr_aload_n 16 rfl g274 rfl ?_
        refine qr_get 19 rfl rfl rfl (by decide) rfl ?_
        refine qy_v (σ 86 43) ((hk286).trans rfl) ?_
        refine qr_icmp_ge 81 22 rfl rfl rfl (qrg hf287 (by decide) (by decide)) (qrg hz86_43 (by decide) (by decide)) (fun h290 => ?_) (fun h290 => ?_)
        · skip
          refine qr_iconst 82 rfl rfl ?_
          refine qr_retZ rfl rfl (Or.inl rfl) (by decide) (by decide) ?_
          exact ⟨_, _, rfl, hI283, hF284, 0, rfl, (by decide)⟩
        · skip
          refine qr_iload_n 23 rfl g276 rfl ?_
          refine qr_iload 25 rfl g279 rfl ?_
          refine qr_ishr 26 rfl rfl ?_
          refine qy_can (fun v291 hv291 => ?_)
          refine qr_iconst 27 rfl rfl ?_
          refine qr_iand 28 rfl rfl ?_
          refine qy_andr (by omega) (fun v292 hv292 => ?_)
          refine qr_iconst 29 rfl rfl ?_
          refine qr_icmp_ne 35 32 rfl rfl rfl (by omega) (by decide) (fun h293 => ?_) (fun h293 => ?_)
          · skip
            refine qr_aload_n 36 rfl g274 rfl ?_
            refine qr_get 39 rfl rfl rfl (by decide) rfl ?_
            refine qr_iload_n 40 rfl g275 rfl ?_
            refine qr_iload 42 rfl g279 rfl ?_
            refine qr_iastore 43 rfl (by decide) rfl (by decide) (by decide) rfl ?_
            refine qy_wA (qw_r α282 114 (qzu (α282 114) (0 : Int).toNat u280)) rfl (fun α294 e295 => ?_)
            have hI296 : qI σ281 α294 κ ρ := by rw [e295]; exact qI_r hI283 114 _ rfl (show 0 ≤ u280 ∧ u280 ≤ 5 by omega)
            have hF297 : qFr [(86, 15), (86, 23), (86, 30)] [96, 114] σ α σ281 α294 := by rw [e295]; exact qFr_r hF284 114 _ (by decide)
            refine qr_aload_n 44 rfl g274 rfl ?_
            refine qr_iload_n 45 rfl g275 rfl ?_
            refine qr_iload_n 46 rfl g277 rfl ?_
            refine qr_iload 48 rfl g278 rfl ?_
            have hs298 : 0 ≤ σ281 86 43 ∧ σ281 86 43 ≤ 32 := hI296.1 86 43
            have hs299 : σ281 86 43 = (σ 86 43) := (hk286).trans rfl
            have hs300 : 0 ≤ σ281 86 6 ∧ σ281 86 6 ≤ 32 := hI296.1 86 6
            have hs301 : σ281 86 6 = (σ 86 6) := (hk285).trans rfl
            refine qr_callN 51 rfl rfl rfl (sf_244_86 (d := d + 5) hI296 (by decide) r3 (qrg r4 (by decide) (by decide)) (by omega) (by omega)) ?_
            rintro _ _ ⟨σ303, α304, rfl, hI305, hG306, v302, rfl, hv302⟩
            have hF307 : qFr [(86, 15), (86, 23), (86, 30)] [96, 114] σ α σ303 α304 := qFr_t hF297 hG306 (by decide) (by decide)
            show qr_W (qe L xs vb) (d + 11) qx_e243 _ (51, _, [.int (qz v302)], qw σ303 α304 κ ρ, 0, 0)
            refine qr_if_ne 75 54 rfl rfl rfl (qrg hv302 (by decide) (by decide)) (fun h308 => ?_) (fun h308 => ?_)
            · skip
              refine qr_iinc _ 78 rfl g279 (by decide) rfl rfl ?_
              refine qr_goto 13 rfl rfl ?_
              exact ih289 _ (u280 + 1) σ303 α304 (by omega) (qm_gk g274 (by decide) (Or.inl (by decide))) (qm_gk g275 (by decide) (Or.inl (by decide))) (qm_gk g276 (by decide) (Or.inl (by decide))) (qm_gk g277 (by decide) (Or.inl (by decide))) (qm_gk g278 (by decide) (Or.inr rfl)) (qm_ge _ _ _) (by omega) hI305 hF307 ((hG306.1 86 6 (by decide)).trans ((hk285).trans rfl)) ((hG306.1 86 43 (by decide)).trans ((hk286).trans rfl))
            · skip
              refine qr_aload_n 55 rfl g274 rfl ?_
              refine qr_iload_n 56 rfl g275 rfl ?_
              refine qr_iconst 57 rfl rfl ?_
              refine qr_iadd 58 rfl rfl ?_
              refine qy_v 1 rfl ?_
              refine qr_iload_n 59 rfl g276 rfl ?_
              refine qr_iconst 60 rfl rfl ?_
              refine qr_iload 62 rfl g279 rfl ?_
              refine qr_ishl 63 rfl rfl ?_
              refine qy_shl1 (N := 5) (by omega) (fun v309 hv309 => ?_)
              refine qr_ior 64 rfl rfl ?_
              refine qy_can (fun v310 hv310 => ?_)
              refine qr_iload_n 65 rfl g277 rfl ?_
              refine qr_iload 67 rfl g278 rfl ?_
              have hs311 : 0 ≤ σ303 86 43 ∧ σ303 86 43 ≤ 32 := hI305.1 86 43
              have hs312 : σ303 86 43 = (σ 86 43) := (hG306.1 86 43 (by decide)).trans ((hk286).trans rfl)
              have hs313 : 0 ≤ σ303 86 6 ∧ σ303 86 6 ≤ 32 := hI305.1 86 6
              have hs314 : σ303 86 6 = (σ 86 6) := (hG306.1 86 6 (by decide)).trans ((hk285).trans rfl)
              refine qr_callN 70 rfl rfl rfl (sf_243_86t1 (d := d + 0) hI305 hv310 r3 r4 (by omega) (by omega) (by omega)) ?_
              rintro _ _ ⟨σ316, α317, rfl, hI318, hG319, v315, rfl, hv315⟩
              have hF320 : qFr [(86, 15), (86, 23), (86, 30)] [96, 114] σ α σ316 α317 := qFr_t hF307 hG319 (by decide) (by decide)
              show qr_W (qe L xs vb) (d + 11) qx_e243 _ (70, _, [.int (qz v315)], qw σ316 α317 κ ρ, 0, 0)
              refine qr_if_eq 75 73 rfl rfl rfl (qrg hv315 (by decide) (by decide)) (fun h321 => ?_) (fun h321 => ?_)
              · skip
                refine qr_iinc _ 78 rfl g279 (by decide) rfl rfl ?_
                refine qr_goto 13 rfl rfl ?_
                exact ih289 _ (u280 + 1) σ316 α317 (by omega) (qm_gk g274 (by decide) (Or.inl (by decide))) (qm_gk g275 (by decide) (Or.inl (by decide))) (qm_gk g276 (by decide) (Or.inl (by decide))) (qm_gk g277 (by decide) (Or.inl (by decide))) (qm_gk g278 (by decide) (Or.inr rfl)) (qm_ge _ _ _) (by omega) hI318 hF320 ((hG319.1 86 6 (by decide)).trans ((hG306.1 86 6 (by decide)).trans ((hk285).trans rfl))) ((hG319.1 86 43 (by decide)).trans ((hG306.1 86 43 (by decide)).trans ((hk286).trans rfl)))
              · skip
                refine qr_iconst 74 rfl rfl ?_
                refine qr_retZ rfl rfl (Or.inr rfl) (by decide) (by decide) ?_
                exact ⟨_, _, rfl, hI318, hF320, 1, rfl, (by decide)⟩
          · skip
            refine qr_goto 75 rfl rfl ?_
            refine qr_iinc _ 78 rfl g279 (by decide) rfl rfl ?_
            refine qr_goto 13 rfl rfl ?_
            exact ih289 _ (u280 + 1) σ281 α282 (by omega) (qm_gk g274 (by decide) (Or.inl (by decide))) (qm_gk g275 (by decide) (Or.inl (by decide))) (qm_gk g276 (by decide) (Or.inl (by decide))) (qm_gk g277 (by decide) (Or.inl (by decide))) (qm_gk g278 (by decide) (Or.inr rfl)) (qm_ge _ _ _) (by omega) hI283 hF284 ((hk285).trans rfl) ((hk286).trans rfl)
    exact hL288 ((6 - 0 + 1 : Int)).toNat _ 0 σ α (by omega) rfl rfl rfl rfl rfl rfl (by decide) hI hF0 (rfl) (rfl)
  · skip
    refine qr_iconst 9 rfl rfl ?_
    refine qr_retZ rfl rfl (Or.inr rfl) (by decide) (by decide) ?_
    exact ⟨_, _, rfl, hI, hF0, 1, rfl, (by decide)⟩

set_option maxHeartbeats 4000000 in
set_option maxRecDepth 20000 in
/-- OneRoofModel.leave -/
theorem sf_242_86 {L : Nat} {xs : Nat → Int} {vb : Bool} {d : Nat} {σ α : Nat → Nat → Int} {κ : Nat → Option Nat} {ρ : Nat} {x1 : Int} {x2 : Int} {x3 : Int} (hI : qI σ α κ ρ) (r1 : (-9223372036854775808) ≤ x1 ∧ x1 ≤ 9223372036854775807) (r2 : (-2147483648) ≤ x2 ∧ x2 ≤ 2147483647) (r3 : (-2147483648) ≤ x3 ∧ x3 ≤ 2147483647) : qm_T (qe L xs vb) (d + 13) 242 [.ref 86, .long (ql x1), .int (qz x2), .int (qz x3)] (qw σ α κ ρ) (fun r w' => ∃ σ' α', w' = qw σ' α' κ ρ ∧ qI σ' α' κ ρ ∧ qFr [(86, 15), (86, 23), (86, 30), (86, 43)] [96, 110, 114] σ α σ' α' ∧ ∃ v : Int, r = some (.int (qz v)) ∧ ((-2147483648) ≤ v ∧ v ≤ 2147483647)) := by
  refine qr_start (d := d + 12) qv_e242 (Nat.le_of_ble_eq_true rfl) ?_
  show qr_W (qe L xs vb) (d + 12) qx_e242 _ (0, [(0, .ref 86), (1, .long (ql x1)), (3, .int (qz x2)), (4, .int (qz x3))], [], _, 0, 0)
  have hF0 := qFr_rf [(86, 15), (86, 23), (86, 30), (86, 43)] [96, 110, 114] σ α
  have hz86_6 : 0 ≤ σ 86 6 ∧ σ 86 6 ≤ 32 := hI.1 86 6
  refine qr_iload_n 1 rfl rfl rfl ?_
  refine qr_callN 4 rfl rfl rfl (sf_192 (d := d + 10) hI r2) ?_
  rintro _ _ ⟨rfl, v1, rfl, hv1, hp2⟩
  show qr_W (qe L xs vb) (d + 12) qx_e242 _ (4, _, [.int (qz v1)], qw σ α κ ρ, 0, 0)
  refine qr_if_eq 32 7 rfl rfl rfl (qrg hv1 (by decide) (by decide)) (fun h3 => ?_) (fun h3 => ?_)
  · skip
    refine qr_iconst 33 rfl rfl ?_
    refine qr_retI rfl rfl (by decide) (by decide) ?_
    exact ⟨_, _, rfl, hI, hF0, (-1), rfl, (by decide)⟩
  · skip
    refine qr_iload 9 rfl rfl rfl ?_
    refine qr_i2l 10 rfl r3 rfl ?_
    refine qr_ldc2 100 13 rfl (by decide) rfl ?_
    refine qr_ldc2 2499 16 rfl (by decide) rfl ?_
    refine qr_callN 19 rfl rfl rfl (sf_176 (d := d + 11) hI (qrg r3 (by decide) (by decide)) (by decide) (by decide)) ?_
    rintro _ _ ⟨rfl, v4, rfl, hv4, hp5⟩
    show qr_W (qe L xs vb) (d + 12) qx_e242 _ (19, _, [.int (qz v4)], qw σ α κ ρ, 0, 0)
    refine qr_if_eq 32 22 rfl rfl rfl (qrg hv4 (by decide) (by decide)) (fun h6 => ?_) (fun h6 => ?_)
    · skip
      refine qr_iconst 33 rfl rfl ?_
      refine qr_retI rfl rfl (by decide) (by decide) ?_
      exact ⟨_, _, rfl, hI, hF0, (-1), rfl, (by decide)⟩
    · skip
      refine qr_aload_n 23 rfl rfl rfl ?_
      refine qr_lload_n 24 rfl rfl rfl ?_
      refine qr_bipush 26 rfl (by decide) rfl ?_
      refine qr_callN 29 rfl rfl rfl (sf_234_86p (d := d + 10) hI r1 (by decide)) ?_
      have hs9 : 0 ≤ σ 86 6 ∧ σ 86 6 ≤ 32 := hI.1 86 6
      rintro _ _ ⟨σ10, α11, rfl, hI12, hG13, v7, rfl, hv7, hp8⟩
      have hF14 : qFr [(86, 15), (86, 23), (86, 30), (86, 43)] [96, 110, 114] σ α σ10 α11 := qFr_t hF0 hG13 (by decide) (by decide)
      have hs15 : 0 ≤ σ10 86 43 ∧ σ10 86 43 ≤ 32 := hI12.1 86 43
      show qr_W (qe L xs vb) (d + 12) qx_e242 _ (29, _, [.int (qz v7)], qw σ10 α11 κ ρ, 0, 0)
      refine qr_if_ne 34 32 rfl rfl rfl (qrg hv7 (by decide) (by decide)) (fun h16 => ?_) (fun h16 => ?_)
      · skip
        refine qr_aload_n 35 rfl rfl rfl ?_
        refine qr_iconst 36 rfl rfl ?_
        refine qr_iconst 37 rfl rfl ?_
        refine qr_iload_n 38 rfl rfl rfl ?_
        refine qr_iload 40 rfl rfl rfl ?_
        have hs17 : 0 ≤ σ10 86 43 ∧ σ10 86 43 ≤ 32 := hI12.1 86 43
        have hs18 : 0 ≤ σ10 86 6 ∧ σ10 86 6 ≤ 32 := hI12.1 86 6
        have hs19 : σ10 86 6 = (σ 86 6) := (hG13.1 86 6 (by decide)).trans rfl
        refine qr_callN 43 rfl rfl rfl (sf_243_86t0 (d := d + 0) hI12 (by decide) r2 (by omega) (by omega) (by omega) (by omega)) ?_
        rintro _ _ ⟨σ21, α22, rfl, hI23, hG24, v20, rfl, hv20⟩
        have hF25 : qFr [(86, 15), (86, 23), (86, 30), (86, 43)] [96, 110, 114] σ α σ21 α22 := qFr_t hF14 hG24 (by decide) (by decide)
        show qr_W (qe L xs vb) (d + 12) qx_e242 _ (43, _, [.int (qz v20)], qw σ21 α22 κ ρ, 0, 0)
        refine qr_if_ne 49 46 rfl rfl rfl (qrg hv20 (by decide) (by decide)) (fun h26 => ?_) (fun h26 => ?_)
        · skip
          refine qr_iconst 50 rfl rfl ?_
          refine qr_istore _ 52 rfl (by decide) rfl rfl ?_
          refine qr_iconst 53 rfl rfl ?_
          refine qr_istore _ 55 rfl (by decide) rfl rfl ?_
          have hL103 : ∀ (n : Nat) (ls : qm_L) (u98 u100 : Int), 6 - u100 < (n : Int) → qm_get ls 0 = some (.ref 86) → qm_get ls 5 = some (.int (qz u98)) → qm_get ls 6 = some (.int (qz u100)) → ((-2147483648) ≤ u98 ∧ u98 ≤ 2147483647) → (0 ≤ u100 ∧ u100 ≤ 6) → qr_W (qe L xs vb) (d + 12) qx_e242 (fun r w' => ∃ σ' α', w' = qw σ' α' κ ρ ∧ qI σ' α' κ ρ ∧ qFr [(86, 15), (86, 23), (86, 30), (86, 43)] [96, 110, 114] σ α σ' α' ∧ ∃ v : Int, r = some (.int (qz v)) ∧ ((-2147483648) ≤ v ∧ v ≤ 2147483647)) (55, ls, [], qw σ21 α22 κ ρ, 0, 0) := by
            intro n
            induction n with
            | zero => intro ls u98 u100 hm g96 g97 g99 hf101 hf102; exact False.elim (by omega)
            | succ n ih104 =>
              intro ls u98 u100 hm g96 g97 g99 hf101 hf102
              refine qr_iload 57 rfl g99 rfl ?_
              refine qr_aload_n 58 rfl g96 rfl ?_
              refine qr_get 61 rfl rfl rfl (by decide) rfl ?_
              refine qy_v (σ10 86 43) ((hG24.1 86 43 (by decide)).trans rfl) ?_
              refine qr_icmp_ge 87 64 rfl rfl rfl (qrg hf102 (by decide) (by decide)) (by omega) (fun h105 => ?_) (fun h105 => ?_)
              · skip
                refine qr_iload 89 rfl g97 rfl ?_
                refine qr_retI rfl rfl (by decide) (by decide) ?_
                exact ⟨_, _, rfl, hI23, hF25, u98, rfl, hf101⟩
              · skip
                refine qr_bipush 66 rfl (by decide) rfl ?_
                refine qr_iload 68 rfl g97 rfl ?_
                refine qr_imul 69 rfl rfl ?_
                refine qy_can (fun v106 hv106 => ?_)
                refine qr_aload_n 70 rfl g96 rfl ?_
                refine qr_get 73 rfl rfl rfl (by decide) rfl ?_
                refine qr_iload 75 rfl g99 rfl ?_
                refine qr_iaload 76 rfl rfl (by omega) (by decide) rfl ?_
                refine qr_topI (fun v107 hv107 => ?_)
                have hs108 : 0 ≤ v107 ∧ v107 ≤ 5 := by rw [hv107]; exact hI23.2.1 114 _ (show _ < 6 by omega)
                refine qr_iadd 77 rfl rfl ?_
                refine qy_can (fun v109 hv109 => ?_)
                refine qr_iconst 78 rfl rfl ?_
                refine qr_iadd 79 rfl rfl ?_
                refine qy_can (fun v110 hv110 => ?_)
                refine qr_istore _ 81 rfl (by decide) rfl rfl ?_
                refine qr_iinc _ 84 rfl (qm_gk g99 (by decide) (Or.inl (by decide))) (by decide) rfl rfl ?_
                refine qr_goto 55 rfl rfl ?_
                exact ih104 _ v110 (u100 + 1) (by omega) (qm_gk (qm_gk g96 (by decide) (Or.inl (by decide))) (by decide) (Or.inl (by decide))) (qm_gk (qm_ge _ _ _) (by decide) (Or.inr rfl)) (qm_ge _ _ _) hv110 (by omega)
          exact hL103 ((6 - 0 + 1 : Int)).toNat _ 0 0 (by omega) rfl rfl rfl (by decide) (by decide)
        · skip
          refine qr_bipush 48 rfl (by decide) rfl ?_
          refine qr_retI rfl rfl (by decide) (by decide) ?_
          exact ⟨_, _, rfl, hI23, hF25, (-2), rfl, (by decide)⟩
      · skip
        refine qr_iconst 33 rfl rfl ?_
        refine qr_retI rfl rfl (by decide) (by decide) ?_
        exact ⟨_, _, rfl, hI12, hF14, (-1), rfl, (by decide)⟩

set_option maxHeartbeats 4000000 in
set_option maxRecDepth 20000 in
/-- OneRoofModel.blowFalls -/
theorem sf_247_86 {L : Nat} {xs : Nat → Int} {vb : Bool} {d : Nat} {σ α : Nat → Nat → Int} {κ : Nat → Option Nat} {ρ : Nat} {x1 : Int} {x2 : Int} {x3 : Int} {x4 : Int} (hI : qI σ α κ ρ) (r1 : 0 ≤ x1 ∧ x1 ≤ 31) (r2 : 0 ≤ x2 ∧ x2 ≤ 31) (r3 : (-2147483648) ≤ x3 ∧ x3 ≤ 2147483647) (r4 : 0 ≤ x4 ∧ x4 ≤ 1) (p0 : 1 ≤ σ 86 6) (p1 : σ 86 50 ≤ 30) : qm_T (qe L xs vb) (d + 4) 247 [.ref 86, .int (qz x1), .int (qz x2), .int (qz x3), .int (qz x4)] (qw σ α κ ρ) (fun r w' => ∃ σ' α', w' = qw σ' α' κ ρ ∧ qI σ' α' κ ρ ∧ qFr [(86, 4), (86, 5), (86, 10), (86, 29), (86, 50)] [87, 88, 89, 90, 115, 116] σ α σ' α' ∧ σ' 86 50 = σ 86 50 + 1 ∧ r = none) := by
  refine qr_start (d := d + 3) qv_e247 (Nat.le_of_ble_eq_true rfl) ?_
  show qr_W (qe L xs vb) (d + 3) qx_e247 _ (0, [(0, .ref 86), (1, .int (qz x1)), (2, .int (qz x2)), (3, .int (qz x3)), (4, .int (qz x4))], [], _, 0, 0)
  have hF0 := qFr_rf [(86, 4), (86, 5), (86, 10), (86, 29), (86, 50)] [87, 88, 89, 90, 115, 116] σ α
  have hz86_6 : 0 ≤ σ 86 6 ∧ σ 86 6 ≤ 32 := hI.1 86 6
  have hz86_50 : 0 ≤ σ 86 50 ∧ σ 86 50 ≤ 31 := hI.1 86 50
  refine qr_iconst 1 rfl rfl ?_
  refine qr_istore _ 3 rfl (by decide) rfl rfl ?_
  have hL4191 : ∀ (n : Nat) (ls : qm_L) (u4183 : Int) (σ4184 α4185 : Nat → Nat → Int), 60 - u4183 < (n : Int) → qm_get ls 0 = some (.ref 86) → qm_get ls 1 = some (.int (qz x1)) → qm_get ls 2 = some (.int (qz x2)) → qm_get ls 3 = some (.int (qz x3)) → qm_get ls 4 = some (.int (qz x4)) → qm_get ls 5 = some (.int (qz u4183)) → (0 ≤ u4183 ∧ u4183 ≤ 60) → qI σ4184 α4185 κ ρ → qFr [(86, 4), (86, 5), (86, 10), (86, 29), (86, 50)] [87, 88, 89, 90, 115, 116] σ α σ4184 α4185 → σ4184 86 6 = (σ 86 6) → σ4184 86 50 = (σ 86 50) → qr_W (qe L xs vb) (d + 3) qx_e247 (fun r w' => ∃ σ' α', w' = qw σ' α' κ ρ ∧ qI σ' α' κ ρ ∧ qFr [(86, 4), (86, 5), (86, 10), (86, 29), (86, 50)] [87, 88, 89, 90, 115, 116] σ α σ' α' ∧ σ' 86 50 = σ 86 50 + 1 ∧ r = none) (3, ls, [], qw σ4184 α4185 κ ρ, 0, 0) := by
    intro n
    induction n with
    | zero => intro ls u4183 σ4184 α4185 hm g4177 g4178 g4179 g4180 g4181 g4182 hf4190 hI4186 hF4187 hk4188 hk4189; exact False.elim (by omega)
    | succ n ih4192 =>
      intro ls u4183 σ4184 α4185 hm g4177 g4178 g4179 g4180 g4181 g4182 hf4190 hI4186 hF4187 hk4188 hk4189
      refine qr_iload 5 rfl g4182 rfl ?_
      refine qr_aload_n 6 rfl g4177 rfl ?_
      refine qr_get 9 rfl rfl rfl (by decide) rfl ?_
      have hs4193 : 0 ≤ σ4184 86 24 ∧ σ4184 86 24 ≤ 60 := hI4186.1 86 24
      refine qr_icmp_ge 86 12 rfl rfl rfl (qrg hf4190 (by decide) (by decide)) (qrg hs4193 (by decide) (by decide)) (fun h4268 => ?_) (fun h4268 => ?_)
      · skip
        refine qr_aload_n 87 rfl g4177 rfl ?_
        refine qr_dup 88 rfl rfl rfl ?_
        refine qr_get 91 rfl rfl rfl (by decide) rfl ?_
        have hs4269 : (-9223372036854775808) ≤ σ4184 86 10 ∧ σ4184 86 10 ≤ 9223372036854775807 := hI4186.1 86 10
        refine qr_lconst 92 rfl rfl ?_
        refine qy_vl 1 rfl ?_
        refine qr_iload_n 93 rfl g4179 rfl ?_
        refine qr_lshl 94 rfl rfl ?_
        refine qy_canl (fun v4270 hv4270 => ?_)
        refine qr_lor 95 rfl rfl ?_
        refine qy_canl (fun v4271 hv4271 => ?_)
        refine qr_put 98 rfl (by decide) rfl (Nat.le_of_ble_eq_true rfl) (Nat.le_of_ble_eq_true rfl) (Or.inl rfl) (qr_fitL rfl _) rfl ?_
        refine qy_wS (qw_s σ4184 86 10 v4271) rfl (fun σ4272 e4273 => ?_)
        have hI4274 : qI σ4272 α4185 κ ρ := by rw [e4273]; exact qI_s hI4186 86 10 rfl (show (-9223372036854775808) ≤ v4271 ∧ v4271 ≤ 9223372036854775807 by omega)
        have hF4275 : qFr [(86, 4), (86, 5), (86, 10), (86, 29), (86, 50)] [87, 88, 89, 90, 115, 116] σ α σ4272 α4185 := by rw [e4273]; exact qFr_s hF4187 86 10 _ (by decide)
        refine qr_aload_n 99 rfl g4177 rfl ?_
        refine qr_get 102 rfl rfl rfl (by decide) rfl ?_
        refine qr_aload_n 103 rfl g4177 rfl ?_
        refine qr_get 106 rfl rfl rfl (by decide) rfl ?_
        refine qy_v (σ 86 50) ((congrFun (congrFun e4273 86) 50).trans ((hk4189).trans rfl)) ?_
        refine qr_iload_n 107 rfl g4178 rfl ?_
        refine qr_iastore 108 rfl (by decide) rfl (by omega) (by decide) rfl ?_
        refine qy_wA (qw_r α4185 115 (qzu (α4185 115) ((σ 86 50) : Int).toNat x1)) rfl (fun α4276 e4277 => ?_)
        have hI4278 : qI σ4272 α4276 κ ρ := by rw [e4277]; exact qI_r hI4274 115 _ rfl (show 0 ≤ x1 ∧ x1 ≤ 31 by omega)
        have hF4279 : qFr [(86, 4), (86, 5), (86, 10), (86, 29), (86, 50)] [87, 88, 89, 90, 115, 116] σ α σ4272 α4276 := by rw [e4277]; exact qFr_r hF4275 115 _ (by decide)
        refine qr_aload_n 109 rfl g4177 rfl ?_
        refine qr_get 112 rfl rfl rfl (by decide) rfl ?_
        refine qr_aload_n 113 rfl g4177 rfl ?_
        refine qr_get 116 rfl rfl rfl (by decide) rfl ?_
        refine qy_v (σ 86 50) ((congrFun (congrFun e4273 86) 50).trans ((hk4189).trans rfl)) ?_
        refine qr_iload_n 117 rfl g4179 rfl ?_
        refine qr_iastore 118 rfl (by decide) rfl (by omega) (by decide) rfl ?_
        refine qy_wA (qw_r α4276 116 (qzu (α4276 116) ((σ 86 50) : Int).toNat x2)) rfl (fun α4280 e4281 => ?_)
        have hI4282 : qI σ4272 α4280 κ ρ := by rw [e4281]; exact qI_r hI4278 116 _ rfl (show 0 ≤ x2 ∧ x2 ≤ 31 by omega)
        have hF4283 : qFr [(86, 4), (86, 5), (86, 10), (86, 29), (86, 50)] [87, 88, 89, 90, 115, 116] σ α σ4272 α4280 := by rw [e4281]; exact qFr_r hF4279 116 _ (by decide)
        refine qr_aload_n 119 rfl g4177 rfl ?_
        refine qr_dup 120 rfl rfl rfl ?_
        refine qr_get 123 rfl rfl rfl (by decide) rfl ?_
        refine qy_v (σ 86 50) ((congrFun (congrFun e4273 86) 50).trans ((hk4189).trans rfl)) ?_
        refine qr_iconst 124 rfl rfl ?_
        refine qr_iadd 125 rfl rfl ?_
        refine qr_put 128 rfl (by decide) rfl (Nat.le_of_ble_eq_true rfl) (Nat.le_of_ble_eq_true rfl) (Or.inl rfl) (qr_fitI rfl _) rfl ?_
        refine qy_wS (qw_s σ4272 86 50 ((σ 86 50) + 1)) rfl (fun σ4284 e4285 => ?_)
        have hI4286 : qI σ4284 α4280 κ ρ := by rw [e4285]; exact qI_s hI4282 86 50 rfl (show 0 ≤ ((σ 86 50) + 1) ∧ ((σ 86 50) + 1) ≤ 31 by omega)
        have hF4287 : qFr [(86, 4), (86, 5), (86, 10), (86, 29), (86, 50)] [87, 88, 89, 90, 115, 116] σ α σ4284 α4280 := by rw [e4285]; exact qFr_s hF4283 86 50 _ (by decide)
        refine qr_retV rfl rfl (by decide) (by decide) ?_
        exact ⟨_, _, rfl, hI4286, hF4287, (by have hw : σ4284 86 50 = ((σ 86 50) + 1) := (congrFun (congrFun e4285 86) 50).trans rfl; omega), rfl⟩
      · skip
        refine qr_aload_n 13 rfl g4177 rfl ?_
        refine qr_iload 15 rfl g4182 rfl ?_
        refine qr_iload_n 16 rfl g4178 rfl ?_
        refine qr_iload_n 17 rfl g4179 rfl ?_
        refine qr_iload_n 18 rfl g4180 rfl ?_
        have hs4288 : 0 ≤ σ4184 86 6 ∧ σ4184 86 6 ≤ 32 := hI4186.1 86 6
        have hs4289 : σ4184 86 6 = (σ 86 6) := (hk4188).trans rfl
        refine qr_callN 21 rfl rfl rfl (sf_205_86 (d := d + 0) hI4186 (by omega) r1 r2 r3 (by omega)) ?_
        rintro _ _ ⟨rfl, v4290, rfl, hv4290⟩
        show qr_W (qe L xs vb) (d + 3) qx_e247 _ (21, _, [.int (qz v4290)], qw σ4184 α4185 κ ρ, 0, 0)
        have hJ4333 : ∀ (ls : qm_L) (σ4326 α4327 : Nat → Nat → Int), qm_get ls 0 = some (.ref 86) → qm_get ls 1 = some (.int (qz x1)) → qm_get ls 2 = some (.int (qz x2)) → qm_get ls 3 = some (.int (qz x3)) → qm_get ls 4 = some (.int (qz x4)) → qm_get ls 5 = some (.int (qz u4183)) → qI σ4326 α4327 κ ρ → qFr [(86, 4), (86, 5), (86, 10), (86, 29), (86, 50)] [87, 88, 89, 90, 115, 116] σ α σ4326 α4327 → σ4326 86 6 = (σ 86 6) → σ4326 86 24 = (σ4184 86 24) → σ4326 86 50 = (σ 86 50) → qr_W (qe L xs vb) (d + 3) qx_e247 (fun r w' => ∃ σ' α', w' = qw σ' α' κ ρ ∧ qI σ' α' κ ρ ∧ qFr [(86, 4), (86, 5), (86, 10), (86, 29), (86, 50)] [87, 88, 89, 90, 115, 116] σ α σ' α' ∧ σ' 86 50 = σ 86 50 + 1 ∧ r = none) (80, ls, [], qw σ4326 α4327 κ ρ, 0, 0) := by
          intro ls σ4326 α4327 g4320 g4321 g4322 g4323 g4324 g4325 hI4328 hF4329 hk4330 hk4331 hk4332
          refine qr_iinc _ 83 rfl g4325 (by decide) rfl rfl ?_
          refine qr_goto 3 rfl rfl ?_
          exact ih4192 _ (u4183 + 1) σ4326 α4327 (by omega) (qm_gk g4320 (by decide) (Or.inl (by decide))) (qm_gk g4321 (by decide) (Or.inl (by decide))) (qm_gk g4322 (by decide) (Or.inl (by decide))) (qm_gk g4323 (by decide) (Or.inl (by decide))) (qm_gk g4324 (by decide) (Or.inr rfl)) (qm_ge _ _ _) (by omega) hI4328 hF4329 ((hk4330).trans rfl) ((hk4332).trans rfl)
        refine qr_if_eq 80 24 rfl rfl rfl (qrg hv4290 (by decide) (by decide)) (fun h4334 => ?_) (fun h4334 => ?_)
        · skip
          exact hJ4333 _ σ4184 α4185 g4177 g4178 g4179 g4180 g4181 g4182 hI4186 hF4187 ((hk4188).trans rfl) (rfl) ((hk4189).trans rfl)
        · skip
          refine qr_aload_n 25 rfl g4177 rfl ?_
          refine qr_get 28 rfl rfl rfl (by decide) rfl ?_
          refine qr_iload 30 rfl g4182 rfl ?_
          refine qr_iaload 31 rfl rfl (by omega) (by decide) rfl ?_
          refine qr_topI (fun v4335 hv4335 => ?_)
          have hs4336 : 0 ≤ v4335 ∧ v4335 ≤ 31 := by rw [hv4335]; exact hI4186.2.1 102 _ (show _ < 60 by omega)
          refine qr_iload_n 32 rfl g4178 rfl ?_
          refine qr_icmp_eq 45 35 rfl rfl rfl (qrg hs4336 (by decide) (by decide)) (qrg r1 (by decide) (by decide)) (fun h4337 => ?_) (fun h4337 => ?_)
          · skip
            refine qr_iload 47 rfl g4181 rfl ?_
            refine qr_if_eq 67 50 rfl rfl rfl (qrg r4 (by decide) (by decide)) (fun h4338 => ?_) (fun h4338 => ?_)
            · skip
              refine qr_aload_n 68 rfl g4177 rfl ?_
              refine qr_dup 69 rfl rfl rfl ?_
              refine qr_get 72 rfl rfl rfl (by decide) rfl ?_
              have hs4339 : (-9223372036854775808) ≤ σ4184 86 29 ∧ σ4184 86 29 ≤ 9223372036854775807 := hI4186.1 86 29
              refine qr_lconst 73 rfl rfl ?_
              refine qy_vl 1 rfl ?_
              refine qr_iload 75 rfl g4182 rfl ?_
              refine qr_lshl 76 rfl rfl ?_
              refine qy_canl (fun v4340 hv4340 => ?_)
              refine qr_lor 77 rfl rfl ?_
              refine qy_canl (fun v4341 hv4341 => ?_)
              refine qr_put 80 rfl (by decide) rfl (Nat.le_of_ble_eq_true rfl) (Nat.le_of_ble_eq_true rfl) (Or.inl rfl) (qr_fitL rfl _) rfl ?_
              refine qy_wS (qw_s σ4184 86 29 v4341) rfl (fun σ4342 e4343 => ?_)
              have hI4344 : qI σ4342 α4185 κ ρ := by rw [e4343]; exact qI_s hI4186 86 29 rfl (show (-9223372036854775808) ≤ v4341 ∧ v4341 ≤ 9223372036854775807 by omega)
              have hF4345 : qFr [(86, 4), (86, 5), (86, 10), (86, 29), (86, 50)] [87, 88, 89, 90, 115, 116] σ α σ4342 α4185 := by rw [e4343]; exact qFr_s hF4187 86 29 _ (by decide)
              exact hJ4333 _ σ4342 α4185 g4177 g4178 g4179 g4180 g4181 g4182 hI4344 hF4345 ((congrFun (congrFun e4343 86) 6).trans ((hk4188).trans rfl)) ((congrFun (congrFun e4343 86) 24).trans rfl) ((congrFun (congrFun e4343 86) 50).trans ((hk4189).trans rfl))
            · skip
              refine qr_aload_n 51 rfl g4177 rfl ?_
              refine qr_sipush 54 rfl (by decide) rfl ?_
              refine qr_iload 56 rfl g4182 rfl ?_
              refine qr_iadd 57 rfl rfl ?_
              refine qr_bipush 59 rfl (by decide) rfl ?_
              refine qr_callN 62 rfl rfl rfl (sf_183_86 (d := d + 2) hI4186 (by omega) (by decide)) ?_
              rintro _ _ ⟨σ4347, α4348, rfl, hI4349, hG4350, v4346, rfl, hv4346⟩
              have hF4351 : qFr [(86, 4), (86, 5), (86, 10), (86, 29), (86, 50)] [87, 88, 89, 90, 115, 116] σ α σ4347 α4348 := qFr_t hF4187 hG4350 (by decide) (by decide)
              show qr_W (qe L xs vb) (d + 3) qx_e247 _ (62, _, [.int (qz v4346)], qw σ4347 α4348 κ ρ, 0, 0)
              refine qr_istore _ 64 rfl (by decide) rfl rfl ?_
              refine qr_goto 80 rfl rfl ?_
              exact hJ4333 _ σ4347 α4348 (qm_gk g4177 (by decide) (Or.inl (by decide))) (qm_gk g4178 (by decide) (Or.inl (by decide))) (qm_gk g4179 (by decide) (Or.inl (by decide))) (qm_gk g4180 (by decide) (Or.inl (by decide))) (qm_gk g4181 (by decide) (Or.inl (by decide))) (qm_gk g4182 (by decide) (Or.inr rfl)) hI4349 hF4351 ((hG4350.1 86 6 (by decide)).trans ((hk4188).trans rfl)) ((hG4350.1 86 24 (by decide)).trans rfl) ((hG4350.1 86 50 (by decide)).trans ((hk4189).trans rfl))
          · skip
            refine qr_aload_n 36 rfl g4177 rfl ?_
            refine qr_iload 38 rfl g4182 rfl ?_
            refine qr_iload_n 39 rfl g4178 rfl ?_
            refine qr_callN 42 rfl rfl rfl (sf_202_86 (d := d + 2) hI4186 (by omega) r1) ?_
            rintro _ _ ⟨rfl, v4352, rfl, hv4352⟩
            show qr_W (qe L xs vb) (d + 3) qx_e247 _ (42, _, [.int (qz v4352)], qw σ4184 α4185 κ ρ, 0, 0)
            refine qr_if_eq 80 45 rfl rfl rfl (qrg hv4352 (by decide) (by decide)) (fun h4353 => ?_) (fun h4353 => ?_)
            · skip
              exact hJ4333 _ σ4184 α4185 g4177 g4178 g4179 g4180 g4181 g4182 hI4186 hF4187 ((hk4188).trans rfl) (rfl) ((hk4189).trans rfl)
            · skip
              refine qr_iload 47 rfl g4181 rfl ?_
              refine qr_if_eq 67 50 rfl rfl rfl (qrg r4 (by decide) (by decide)) (fun h4354 => ?_) (fun h4354 => ?_)
              · skip
                refine qr_aload_n 68 rfl g4177 rfl ?_
                refine qr_dup 69 rfl rfl rfl ?_
                refine qr_get 72 rfl rfl rfl (by decide) rfl ?_
                have hs4355 : (-9223372036854775808) ≤ σ4184 86 29 ∧ σ4184 86 29 ≤ 9223372036854775807 := hI4186.1 86 29
                refine qr_lconst 73 rfl rfl ?_
                refine qy_vl 1 rfl ?_
                refine qr_iload 75 rfl g4182 rfl ?_
                refine qr_lshl 76 rfl rfl ?_
                refine qy_canl (fun v4356 hv4356 => ?_)
                refine qr_lor 77 rfl rfl ?_
                refine qy_canl (fun v4357 hv4357 => ?_)
                refine qr_put 80 rfl (by decide) rfl (Nat.le_of_ble_eq_true rfl) (Nat.le_of_ble_eq_true rfl) (Or.inl rfl) (qr_fitL rfl _) rfl ?_
                refine qy_wS (qw_s σ4184 86 29 v4357) rfl (fun σ4358 e4359 => ?_)
                have hI4360 : qI σ4358 α4185 κ ρ := by rw [e4359]; exact qI_s hI4186 86 29 rfl (show (-9223372036854775808) ≤ v4357 ∧ v4357 ≤ 9223372036854775807 by omega)
                have hF4361 : qFr [(86, 4), (86, 5), (86, 10), (86, 29), (86, 50)] [87, 88, 89, 90, 115, 116] σ α σ4358 α4185 := by rw [e4359]; exact qFr_s hF4187 86 29 _ (by decide)
                exact hJ4333 _ σ4358 α4185 g4177 g4178 g4179 g4180 g4181 g4182 hI4360 hF4361 ((congrFun (congrFun e4359 86) 6).trans ((hk4188).trans rfl)) ((congrFun (congrFun e4359 86) 24).trans rfl) ((congrFun (congrFun e4359 86) 50).trans ((hk4189).trans rfl))
              · skip
                refine qr_aload_n 51 rfl g4177 rfl ?_
                refine qr_sipush 54 rfl (by decide) rfl ?_
                refine qr_iload 56 rfl g4182 rfl ?_
                refine qr_iadd 57 rfl rfl ?_
                refine qr_bipush 59 rfl (by decide) rfl ?_
                refine qr_callN 62 rfl rfl rfl (sf_183_86 (d := d + 2) hI4186 (by omega) (by decide)) ?_
                rintro _ _ ⟨σ4363, α4364, rfl, hI4365, hG4366, v4362, rfl, hv4362⟩
                have hF4367 : qFr [(86, 4), (86, 5), (86, 10), (86, 29), (86, 50)] [87, 88, 89, 90, 115, 116] σ α σ4363 α4364 := qFr_t hF4187 hG4366 (by decide) (by decide)
                show qr_W (qe L xs vb) (d + 3) qx_e247 _ (62, _, [.int (qz v4362)], qw σ4363 α4364 κ ρ, 0, 0)
                refine qr_istore _ 64 rfl (by decide) rfl rfl ?_
                refine qr_goto 80 rfl rfl ?_
                exact hJ4333 _ σ4363 α4364 (qm_gk g4177 (by decide) (Or.inl (by decide))) (qm_gk g4178 (by decide) (Or.inl (by decide))) (qm_gk g4179 (by decide) (Or.inl (by decide))) (qm_gk g4180 (by decide) (Or.inl (by decide))) (qm_gk g4181 (by decide) (Or.inl (by decide))) (qm_gk g4182 (by decide) (Or.inr rfl)) hI4365 hF4367 ((hG4366.1 86 6 (by decide)).trans ((hk4188).trans rfl)) ((hG4366.1 86 24 (by decide)).trans rfl) ((hG4366.1 86 50 (by decide)).trans ((hk4189).trans rfl))
  exact hL4191 ((60 - 0 + 1 : Int)).toNat _ 0 σ α (by omega) rfl rfl rfl rfl rfl rfl (by decide) hI hF0 (rfl) (rfl)

set_option maxHeartbeats 4000000 in
set_option maxRecDepth 20000 in
/-- OneRoofModel.mustHelp -/
theorem sf_249_86 {L : Nat} {xs : Nat → Int} {vb : Bool} {d : Nat} {σ α : Nat → Nat → Int} {κ : Nat → Option Nat} {ρ : Nat} {x1 : Int} {x2 : Int} {x3 : Int} {x4 : Int} (hI : qI σ α κ ρ) (r1 : 0 ≤ x1 ∧ x1 ≤ 31) (r2 : 0 ≤ x2 ∧ x2 ≤ 31) (r3 : (-9223372036854775808) ≤ x3 ∧ x3 ≤ 9223372036854775807) (r4 : (-2147483648) ≤ x4 ∧ x4 ≤ 2147483647) (p0 : 1 ≤ σ 86 6) : qm_T (qe L xs vb) (d + 46) 249 [.ref 86, .int (qz x1), .int (qz x2), .long (ql x3), .int (qz x4)] (qw σ α κ ρ) (fun r w' => ∃ σ' α', w' = qw σ' α' κ ρ ∧ qI σ' α' κ ρ ∧ qFr [(86, 15), (86, 23), (86, 30), (86, 35), (86, 36), (86, 37), (86, 38), (86, 39)] [96, 109] σ α σ' α' ∧ ∃ v : Int, r = some (.int (qz v)) ∧ (0 ≤ v ∧ v ≤ 1)) := by
  refine qr_start (d := d + 45) qv_e249 (Nat.le_of_ble_eq_true rfl) ?_
  show qr_W (qe L xs vb) (d + 45) qx_e249 _ (0, [(0, .ref 86), (1, .int (qz x1)), (2, .int (qz x2)), (3, .long (ql x3)), (5, .int (qz x4))], [], _, 0, 0)
  have hF0 := qFr_rf [(86, 15), (86, 23), (86, 30), (86, 35), (86, 36), (86, 37), (86, 38), (86, 39)] [96, 109] σ α
  have hz86_6 : 0 ≤ σ 86 6 ∧ σ 86 6 ≤ 32 := hI.1 86 6
  refine qr_iconst 1 rfl rfl ?_
  refine qr_istore _ 3 rfl (by decide) rfl rfl ?_
  have hL266 : ∀ (n : Nat) (ls : qm_L) (u259 : Int) (σ260 α261 : Nat → Nat → Int), 31 - u259 < (n : Int) → qm_get ls 0 = some (.ref 86) → qm_get ls 1 = some (.int (qz x1)) → qm_get ls 2 = some (.int (qz x2)) → qm_get ls 3 = some (.long (ql x3)) → qm_get ls 5 = some (.int (qz x4)) → qm_get ls 6 = some (.int (qz u259)) → (0 ≤ u259 ∧ u259 ≤ 31) → qI σ260 α261 κ ρ → qFr [(86, 15), (86, 23), (86, 30), (86, 35), (86, 36), (86, 37), (86, 38), (86, 39)] [96, 109] σ α σ260 α261 → σ260 86 6 = (σ 86 6) → qr_W (qe L xs vb) (d + 45) qx_e249 (fun r w' => ∃ σ' α', w' = qw σ' α' κ ρ ∧ qI σ' α' κ ρ ∧ qFr [(86, 15), (86, 23), (86, 30), (86, 35), (86, 36), (86, 37), (86, 38), (86, 39)] [96, 109] σ α σ' α' ∧ ∃ v : Int, r = some (.int (qz v)) ∧ (0 ≤ v ∧ v ≤ 1)) (3, ls, [], qw σ260 α261 κ ρ, 0, 0) := by
    intro n
    induction n with
    | zero => intro ls u259 σ260 α261 hm g253 g254 g255 g256 g257 g258 hf265 hI262 hF263 hk264; exact False.elim (by omega)
    | succ n ih267 =>
      intro ls u259 σ260 α261 hm g253 g254 g255 g256 g257 g258 hf265 hI262 hF263 hk264
      refine qr_iload 5 rfl g258 rfl ?_
      refine qr_aload_n 6 rfl g253 rfl ?_
      refine qr_get 9 rfl rfl rfl (by decide) rfl ?_
      have hs268 : 0 ≤ σ260 86 50 ∧ σ260 86 50 ≤ 31 := hI262.1 86 50
      refine qr_icmp_ge 51 12 rfl rfl rfl (qrg hf265 (by decide) (by decide)) (qrg hs268 (by decide) (by decide)) (fun h269 => ?_) (fun h269 => ?_)
      · skip
        refine qr_iconst 52 rfl rfl ?_
        refine qr_retZ rfl rfl (Or.inl rfl) (by decide) (by decide) ?_
        exact ⟨_, _, rfl, hI262, hF263, 0, rfl, (by decide)⟩
      · skip
        refine qr_aload_n 13 rfl g253 rfl ?_
        refine qr_get 16 rfl rfl rfl (by decide) rfl ?_
        refine qr_iload 18 rfl g258 rfl ?_
        refine qr_iaload 19 rfl rfl (by omega) (by decide) rfl ?_
        refine qr_topI (fun v270 hv270 => ?_)
        have hs271 : 0 ≤ v270 ∧ v270 ≤ 31 := by rw [hv270]; exact hI262.2.1 115 _ (show _ < 31 by omega)
        refine qr_iload_n 20 rfl g255 rfl ?_
        refine qr_icmp_ne 45 23 rfl rfl rfl (qrg hs271 (by decide) (by decide)) (qrg r2 (by decide) (by decide)) (fun h272 => ?_) (fun h272 => ?_)
        · skip
          refine qr_iinc _ 48 rfl g258 (by decide) rfl rfl ?_
          refine qr_goto 3 rfl rfl ?_
          exact ih267 _ (u259 + 1) σ260 α261 (by omega) (qm_gk g253 (by decide) (Or.inl (by decide))) (qm_gk g254 (by decide) (Or.inl (by decide))) (qm_gk g255 (by decide) (Or.inl (by decide))) (qm_gk g256 (by decide) (Or.inl (by decide))) (qm_gk g257 (by decide) (Or.inr rfl)) (qm_ge _ _ _) (by omega) hI262 hF263 ((hk264).trans rfl)
        · skip
          refine qr_aload_n 24 rfl g253 rfl ?_
          refine qr_iconst 25 rfl rfl ?_
          refine qr_iload_n 26 rfl g254 rfl ?_
          refine qr_iload_n 27 rfl g255 rfl ?_
          refine qr_aload_n 28 rfl g253 rfl ?_
          refine qr_get 31 rfl rfl rfl (by decide) rfl ?_
          refine qr_iload 33 rfl g258 rfl ?_
          refine qr_iaload 34 rfl rfl (by omega) (by decide) rfl ?_
          refine qr_topI (fun v273 hv273 => ?_)
          have hs274 : 0 ≤ v273 ∧ v273 ≤ 31 := by rw [hv273]; exact hI262.2.1 116 _ (show _ < 31 by omega)
          refine qr_lload_n 35 rfl g256 rfl ?_
          refine qr_iload 37 rfl g257 rfl ?_
          have hs275 : 0 ≤ σ260 86 6 ∧ σ260 86 6 ≤ 32 := hI262.1 86 6
          have hs276 : σ260 86 6 = (σ 86 6) := (hk264).trans rfl
          refine qr_callN 40 rfl rfl rfl (sf_228_86 (d := d + 0) hI262 (by decide) r1 r2 (qrg hs274 (by decide) (by decide)) r3 r4 (by omega)) ?_
          rintro _ _ ⟨σ278, α279, rfl, hI280, hG281, v277, rfl, hv277⟩
          have hF282 : qFr [(86, 15), (86, 23), (86, 30), (86, 35), (86, 36), (86, 37), (86, 38), (86, 39)] [96, 109] σ α σ278 α279 := qFr_t hF263 hG281 (by decide) (by decide)
          show qr_W (qe L xs vb) (d + 45) qx_e249 _ (40, _, [.int (qz v277)], qw σ278 α279 κ ρ, 0, 0)
          refine qr_if_eq 45 43 rfl rfl rfl hv277 (fun h283 => ?_) (fun h283 => ?_)
          · skip
            refine qr_iinc _ 48 rfl g258 (by decide) rfl rfl ?_
            refine qr_goto 3 rfl rfl ?_
            exact ih267 _ (u259 + 1) σ278 α279 (by omega) (qm_gk g253 (by decide) (Or.inl (by decide))) (qm_gk g254 (by decide) (Or.inl (by decide))) (qm_gk g255 (by decide) (Or.inl (by decide))) (qm_gk g256 (by decide) (Or.inl (by decide))) (qm_gk g257 (by decide) (Or.inr rfl)) (qm_ge _ _ _) (by omega) hI280 hF282 ((hG281.1 86 6 (by decide)).trans ((hk264).trans rfl))
          · skip
            refine qr_iconst 44 rfl rfl ?_
            refine qr_retZ rfl rfl (Or.inr rfl) (by decide) (by decide) ?_
            exact ⟨_, _, rfl, hI280, hF282, 1, rfl, (by decide)⟩
  exact hL266 ((31 - 0 + 1 : Int)).toNat _ 0 σ α (by omega) rfl rfl rfl rfl rfl rfl (by decide) hI hF0 (rfl)

set_option maxHeartbeats 4000000 in
set_option maxRecDepth 20000 in
/-- OneRoofModel.nextBlow -/
theorem sf_248_86 {L : Nat} {xs : Nat → Int} {vb : Bool} {d : Nat} {σ α : Nat → Nat → Int} {κ : Nat → Option Nat} {ρ : Nat} {x1 : Int} {x2 : Int} (hI : qI σ α κ ρ) (r1 : (-9223372036854775808) ≤ x1 ∧ x1 ≤ 9223372036854775807) (r2 : (-2147483648) ≤ x2 ∧ x2 ≤ 2147483647) : qm_T (qe L xs vb) (d + 47) 248 [.ref 86, .long (ql x1), .int (qz x2)] (qw σ α κ ρ) (fun r w' => ∃ σ' α', w' = qw σ' α' κ ρ ∧ qI σ' α' κ ρ ∧ qFr [(86, 15), (86, 23), (86, 30), (86, 35), (86, 36), (86, 37), (86, 38), (86, 39)] [96, 109] σ α σ' α' ∧ ∃ v : Int, r = some (.int (qz v)) ∧ ((-1) ≤ v ∧ v ≤ 3131) ∧ (v = -1 ∨ (0 ≤ v ∧ v / 100 ≤ 31 ∧ v % 100 ≤ 31))) := by
  refine qr_start (d := d + 46) qv_e248 (Nat.le_of_ble_eq_true rfl) ?_
  show qr_W (qe L xs vb) (d + 46) qx_e248 _ (0, [(0, .ref 86), (1, .long (ql x1)), (3, .int (qz x2))], [], _, 0, 0)
  have hF0 := qFr_rf [(86, 15), (86, 23), (86, 30), (86, 35), (86, 36), (86, 37), (86, 38), (86, 39)] [96, 109] σ α
  have hz86_6 : 0 ≤ σ 86 6 ∧ σ 86 6 ≤ 32 := hI.1 86 6
  refine qr_iconst 1 rfl rfl ?_
  refine qr_istore _ 3 rfl (by decide) rfl rfl ?_
  have hL49387 : ∀ (n : Nat) (ls : qm_L) (u49380 : Int) (σ49381 α49382 : Nat → Nat → Int), 32 - u49380 < (n : Int) → qm_get ls 0 = some (.ref 86) → qm_get ls 1 = some (.long (ql x1)) → qm_get ls 3 = some (.int (qz x2)) → qm_get ls 4 = some (.int (qz u49380)) → (0 ≤ u49380 ∧ u49380 ≤ 32) → qI σ49381 α49382 κ ρ → qFr [(86, 15), (86, 23), (86, 30), (86, 35), (86, 36), (86, 37), (86, 38), (86, 39)] [96, 109] σ α σ49381 α49382 → σ49381 86 6 = (σ 86 6) → qr_W (qe L xs vb) (d + 46) qx_e248 (fun r w' => ∃ σ' α', w' = qw σ' α' κ ρ ∧ qI σ' α' κ ρ ∧ qFr [(86, 15), (86, 23), (86, 30), (86, 35), (86, 36), (86, 37), (86, 38), (86, 39)] [96, 109] σ α σ' α' ∧ ∃ v : Int, r = some (.int (qz v)) ∧ ((-1) ≤ v ∧ v ≤ 3131) ∧ (v = -1 ∨ (0 ≤ v ∧ v / 100 ≤ 31 ∧ v % 100 ≤ 31))) (3, ls, [], qw σ49381 α49382 κ ρ, 0, 0) := by
    intro n
    induction n with
    | zero => intro ls u49380 σ49381 α49382 hm g49376 g49377 g49378 g49379 hf49386 hI49383 hF49384 hk49385; exact False.elim (by omega)
    | succ n ih49388 =>
      intro ls u49380 σ49381 α49382 hm g49376 g49377 g49378 g49379 hf49386 hI49383 hF49384 hk49385
      refine qr_iload 5 rfl g49379 rfl ?_
      refine qr_aload_n 6 rfl g49376 rfl ?_
      refine qr_get 9 rfl rfl rfl (by decide) rfl ?_
      refine qy_v (σ 86 6) ((hk49385).trans rfl) ?_
      refine qr_icmp_ge 101 12 rfl rfl rfl (qrg hf49386 (by decide) (by decide)) (qrg hz86_6 (by decide) (by decide)) (fun h49389 => ?_) (fun h49389 => ?_)
      · skip
        refine qr_iconst 102 rfl rfl ?_
        refine qr_istore _ 104 rfl (by decide) rfl rfl ?_
        have hL54265 : ∀ (n : Nat) (ls : qm_L) (u54258 : Int) (σ54259 α54260 : Nat → Nat → Int), 32 - u54258 < (n : Int) → qm_get ls 0 = some (.ref 86) → qm_get ls 1 = some (.long (ql x1)) → qm_get ls 3 = some (.int (qz x2)) → qm_get ls 4 = some (.int (qz u54258)) → (0 ≤ u54258 ∧ u54258 ≤ 32) → qI σ54259 α54260 κ ρ → qFr [(86, 15), (86, 23), (86, 30), (86, 35), (86, 36), (86, 37), (86, 38), (86, 39)] [96, 109] σ α σ54259 α54260 → σ54259 86 6 = (σ 86 6) → qr_W (qe L xs vb) (d + 46) qx_e248 (fun r w' => ∃ σ' α', w' = qw σ' α' κ ρ ∧ qI σ' α' κ ρ ∧ qFr [(86, 15), (86, 23), (86, 30), (86, 35), (86, 36), (86, 37), (86, 38), (86, 39)] [96, 109] σ α σ' α' ∧ ∃ v : Int, r = some (.int (qz v)) ∧ ((-1) ≤ v ∧ v ≤ 3131) ∧ (v = -1 ∨ (0 ≤ v ∧ v / 100 ≤ 31 ∧ v % 100 ≤ 31))) (104, ls, [], qw σ54259 α54260 κ ρ, 0, 0) := by
          intro n
          induction n with
          | zero => intro ls u54258 σ54259 α54260 hm g54254 g54255 g54256 g54257 hf54264 hI54261 hF54262 hk54263; exact False.elim (by omega)
          | succ n ih54266 =>
            intro ls u54258 σ54259 α54260 hm g54254 g54255 g54256 g54257 hf54264 hI54261 hF54262 hk54263
            refine qr_iload 106 rfl g54257 rfl ?_
            refine qr_aload_n 107 rfl g54254 rfl ?_
            refine qr_get 110 rfl rfl rfl (by decide) rfl ?_
            refine qy_v (σ 86 6) ((hk54263).trans rfl) ?_
            refine qr_icmp_ge 202 113 rfl rfl rfl (qrg hf54264 (by decide) (by decide)) (qrg hz86_6 (by decide) (by decide)) (fun h54267 => ?_) (fun h54267 => ?_)
            · skip
              refine qr_iconst 203 rfl rfl ?_
              refine qr_retI rfl rfl (by decide) (by decide) ?_
              exact ⟨_, _, rfl, hI54261, hF54262, (-1), rfl, (by decide), by omega⟩
            · skip
              refine qr_iconst 114 rfl rfl ?_
              refine qr_istore _ 116 rfl (by decide) rfl rfl ?_
              have hL54580 : ∀ (n : Nat) (ls : qm_L) (u54573 : Int) (σ54574 α54575 : Nat → Nat → Int), 32 - u54573 < (n : Int) → qm_get ls 0 = some (.ref 86) → qm_get ls 1 = some (.long (ql x1)) → qm_get ls 3 = some (.int (qz x2)) → qm_get ls 4 = some (.int (qz u54258)) → qm_get ls 5 = some (.int (qz u54573)) → (0 ≤ u54573 ∧ u54573 ≤ 32) → qI σ54574 α54575 κ ρ → qFr [(86, 15), (86, 23), (86, 30), (86, 35), (86, 36), (86, 37), (86, 38), (86, 39)] [96, 109] σ α σ54574 α54575 → σ54574 86 6 = (σ 86 6) → qr_W (qe L xs vb) (d + 46) qx_e248 (fun r w' => ∃ σ' α', w' = qw σ' α' κ ρ ∧ qI σ' α' κ ρ ∧ qFr [(86, 15), (86, 23), (86, 30), (86, 35), (86, 36), (86, 37), (86, 38), (86, 39)] [96, 109] σ α σ' α' ∧ ∃ v : Int, r = some (.int (qz v)) ∧ ((-1) ≤ v ∧ v ≤ 3131) ∧ (v = -1 ∨ (0 ≤ v ∧ v / 100 ≤ 31 ∧ v % 100 ≤ 31))) (116, ls, [], qw σ54574 α54575 κ ρ, 0, 0) := by
                intro n
                induction n with
                | zero => intro ls u54573 σ54574 α54575 hm g54568 g54569 g54570 g54571 g54572 hf54579 hI54576 hF54577 hk54578; exact False.elim (by omega)
                | succ n ih54581 =>
                  intro ls u54573 σ54574 α54575 hm g54568 g54569 g54570 g54571 g54572 hf54579 hI54576 hF54577 hk54578
                  refine qr_iload 118 rfl g54572 rfl ?_
                  refine qr_aload_n 119 rfl g54568 rfl ?_
                  refine qr_get 122 rfl rfl rfl (by decide) rfl ?_
                  refine qy_v (σ 86 6) ((hk54578).trans rfl) ?_
                  refine qr_icmp_ge 196 125 rfl rfl rfl (qrg hf54579 (by decide) (by decide)) (qrg hz86_6 (by decide) (by decide)) (fun h54582 => ?_) (fun h54582 => ?_)
                  · skip
                    refine qr_iinc _ 199 rfl g54571 (by decide) rfl rfl ?_
                    refine qr_goto 104 rfl rfl ?_
                    exact ih54266 _ (u54258 + 1) σ54574 α54575 (by omega) (qm_gk g54568 (by decide) (Or.inl (by decide))) (qm_gk g54569 (by decide) (Or.inl (by decide))) (qm_gk g54570 (by decide) (Or.inr rfl)) (qm_ge _ _ _) (by omega) hI54576 hF54577 ((hk54578).trans rfl)
                  · skip
                    refine qr_lload_n 126 rfl g54569 rfl ?_
                    refine qr_aload_n 127 rfl g54568 rfl ?_
                    refine qr_get 130 rfl rfl rfl (by decide) rfl ?_
                    have hs54583 : (-9223372036854775808) ≤ σ54574 86 10 ∧ σ54574 86 10 ≤ 9223372036854775807 := hI54576.1 86 10
                    refine qr_ldc2 (-1) 133 rfl (by decide) rfl ?_
                    refine qr_lxor 134 rfl rfl ?_
                    refine qy_canl (fun v54584 hv54584 => ?_)
                    refine qr_land 135 rfl rfl ?_
                    refine qy_canl (fun v54585 hv54585 => ?_)
                    refine qr_iload 137 rfl g54571 rfl ?_
                    refine qr_callN 140 rfl rfl rfl (sf_226 (d := d + 45) hI54576 hv54585 (qrg hf54264 (by decide) (by decide))) ?_
                    rintro _ _ ⟨rfl, v54586, rfl, hv54586⟩
                    show qr_W (qe L xs vb) (d + 46) qx_e248 _ (140, _, [.int (qz v54586)], qw σ54574 α54575 κ ρ, 0, 0)
                    refine qr_if_eq 196 143 rfl rfl rfl (qrg hv54586 (by decide) (by decide)) (fun h54587 => ?_) (fun h54587 => ?_)
                    · skip
                      refine qr_iinc _ 199 rfl g54571 (by decide) rfl rfl ?_
                      refine qr_goto 104 rfl rfl ?_
                      exact ih54266 _ (u54258 + 1) σ54574 α54575 (by omega) (qm_gk g54568 (by decide) (Or.inl (by decide))) (qm_gk g54569 (by decide) (Or.inl (by decide))) (qm_gk g54570 (by decide) (Or.inr rfl)) (qm_ge _ _ _) (by omega) hI54576 hF54577 ((hk54578).trans rfl)
                    · skip
                      refine qr_iload 145 rfl g54572 rfl ?_
                      refine qr_iload 147 rfl g54571 rfl ?_
                      refine qr_icmp_eq 190 150 rfl rfl rfl (qrg hf54579 (by decide) (by decide)) (qrg hf54264 (by decide) (by decide)) (fun h54588 => ?_) (fun h54588 => ?_)
                      · skip
                        refine qr_iinc _ 193 rfl g54572 (by decide) rfl rfl ?_
                        refine qr_goto 116 rfl rfl ?_
                        exact ih54581 _ (u54573 + 1) σ54574 α54575 (by omega) (qm_gk g54568 (by decide) (Or.inl (by decide))) (qm_gk g54569 (by decide) (Or.inl (by decide))) (qm_gk g54570 (by decide) (Or.inl (by decide))) (qm_gk g54571 (by decide) (Or.inr rfl)) (qm_ge _ _ _) (by omega) hI54576 hF54577 ((hk54578).trans rfl)
                      · skip
                        refine qr_lload_n 151 rfl g54569 rfl ?_
                        refine qr_aload_n 152 rfl g54568 rfl ?_
                        refine qr_get 155 rfl rfl rfl (by decide) rfl ?_
                        refine qr_ldc2 (-1) 158 rfl (by decide) rfl ?_
                        refine qr_lxor 159 rfl rfl ?_
                        refine qy_canl (fun v54589 hv54589 => ?_)
                        refine qr_land 160 rfl rfl ?_
                        refine qy_canl (fun v54590 hv54590 => ?_)
                        refine qr_iload 162 rfl g54572 rfl ?_
                        refine qr_callN 165 rfl rfl rfl (sf_226 (d := d + 45) hI54576 hv54590 (qrg hf54579 (by decide) (by decide))) ?_
                        rintro _ _ ⟨rfl, v54591, rfl, hv54591⟩
                        show qr_W (qe L xs vb) (d + 46) qx_e248 _ (165, _, [.int (qz v54591)], qw σ54574 α54575 κ ρ, 0, 0)
                        refine qr_if_eq 190 168 rfl rfl rfl (qrg hv54591 (by decide) (by decide)) (fun h54592 => ?_) (fun h54592 => ?_)
                        · skip
                          refine qr_iinc _ 193 rfl g54572 (by decide) rfl rfl ?_
                          refine qr_goto 116 rfl rfl ?_
                          exact ih54581 _ (u54573 + 1) σ54574 α54575 (by omega) (qm_gk g54568 (by decide) (Or.inl (by decide))) (qm_gk g54569 (by decide) (Or.inl (by decide))) (qm_gk g54570 (by decide) (Or.inl (by decide))) (qm_gk g54571 (by decide) (Or.inr rfl)) (qm_ge _ _ _) (by omega) hI54576 hF54577 ((hk54578).trans rfl)
                        · skip
                          refine qr_aload_n 169 rfl g54568 rfl ?_
                          refine qr_iload 171 rfl g54571 rfl ?_
                          refine qr_iload 173 rfl g54572 rfl ?_
                          refine qr_lload_n 174 rfl g54569 rfl ?_
                          refine qr_iload_n 175 rfl g54570 rfl ?_
                          have hs54593 : 0 ≤ σ54574 86 6 ∧ σ54574 86 6 ≤ 32 := hI54576.1 86 6
                          have hs54594 : σ54574 86 6 = (σ 86 6) := (hk54578).trans rfl
                          refine qr_callN 178 rfl rfl rfl (sf_227_86 (d := d + 0) hI54576 (by omega) (by omega) r1 r2 (by omega)) ?_
                          rintro _ _ ⟨σ54596, α54597, rfl, hI54598, hG54599, v54595, rfl, hv54595⟩
                          have hF54600 : qFr [(86, 15), (86, 23), (86, 30), (86, 35), (86, 36), (86, 37), (86, 38), (86, 39)] [96, 109] σ α σ54596 α54597 := qFr_t hF54577 hG54599 (by decide) (by decide)
                          show qr_W (qe L xs vb) (d + 46) qx_e248 _ (178, _, [.int (qz v54595)], qw σ54596 α54597 κ ρ, 0, 0)
                          refine qr_if_eq 190 181 rfl rfl rfl hv54595 (fun h54601 => ?_) (fun h54601 => ?_)
                          · skip
                            refine qr_iinc _ 193 rfl g54572 (by decide) rfl rfl ?_
                            refine qr_goto 116 rfl rfl ?_
                            exact ih54581 _ (u54573 + 1) σ54596 α54597 (by omega) (qm_gk g54568 (by decide) (Or.inl (by decide))) (qm_gk g54569 (by decide) (Or.inl (by decide))) (qm_gk g54570 (by decide) (Or.inl (by decide))) (qm_gk g54571 (by decide) (Or.inr rfl)) (qm_ge _ _ _) (by omega) hI54598 hF54600 ((hG54599.1 86 6 (by decide)).trans ((hk54578).trans rfl))
                          · skip
                            refine qr_bipush 183 rfl (by decide) rfl ?_
                            refine qr_iload 185 rfl g54571 rfl ?_
                            refine qr_imul 186 rfl rfl ?_
                            refine qr_iload 188 rfl g54572 rfl ?_
                            refine qr_iadd 189 rfl rfl ?_
                            refine qr_retI rfl rfl (by decide) (by decide) ?_
                            exact ⟨_, _, rfl, hI54598, hF54600, ((100 * u54258) + u54573), rfl, (by omega), by omega⟩
              exact hL54580 ((32 - 0 + 1 : Int)).toNat _ 0 σ54259 α54260 (by omega) (qm_gk g54254 (by decide) (Or.inl (by decide))) (qm_gk g54255 (by decide) (Or.inl (by decide))) (qm_gk g54256 (by decide) (Or.inl (by decide))) (qm_gk g54257 (by decide) (Or.inr rfl)) (qm_ge _ _ _) (by decide) hI54261 hF54262 ((hk54263).trans rfl)
        exact hL54265 ((32 - 0 + 1 : Int)).toNat _ 0 σ49381 α49382 (by omega) (qm_gk g49376 (by decide) (Or.inl (by decide))) (qm_gk g49377 (by decide) (Or.inl (by decide))) (qm_gk g49378 (by decide) (Or.inr rfl)) (qm_ge _ _ _) (by decide) hI49383 hF49384 ((hk49385).trans rfl)
      · skip
        refine qr_iconst 13 rfl rfl ?_
        refine qr_istore _ 15 rfl (by decide) rfl rfl ?_
        have hL54914 : ∀ (n : Nat) (ls : qm_L) (u54907 : Int) (σ54908 α54909 : Nat → Nat → Int), 32 - u54907 < (n : Int) → qm_get ls 0 = some (.ref 86) → qm_get ls 1 = some (.long (ql x1)) → qm_get ls 3 = some (.int (qz x2)) → qm_get ls 4 = some (.int (qz u49380)) → qm_get ls 5 = some (.int (qz u54907)) → (0 ≤ u54907 ∧ u54907 ≤ 32) → qI σ54908 α54909 κ ρ → qFr [(86, 15), (86, 23), (86, 30), (86, 35), (86, 36), (86, 37), (86, 38), (86, 39)] [96, 109] σ α σ54908 α54909 → σ54908 86 6 = (σ 86 6) → qr_W (qe L xs vb) (d + 46) qx_e248 (fun r w' => ∃ σ' α', w' = qw σ' α' κ ρ ∧ qI σ' α' κ ρ ∧ qFr [(86, 15), (86, 23), (86, 30), (86, 35), (86, 36), (86, 37), (86, 38), (86, 39)] [96, 109] σ α σ' α' ∧ ∃ v : Int, r = some (.int (qz v)) ∧ ((-1) ≤ v ∧ v ≤ 3131) ∧ (v = -1 ∨ (0 ≤ v ∧ v / 100 ≤ 31 ∧ v % 100 ≤ 31))) (15, ls, [], qw σ54908 α54909 κ ρ, 0, 0) := by
          intro n
          induction n with
          | zero => intro ls u54907 σ54908 α54909 hm g54902 g54903 g54904 g54905 g54906 hf54913 hI54910 hF54911 hk54912; exact False.elim (by omega)
          | succ n ih54915 =>
            intro ls u54907 σ54908 α54909 hm g54902 g54903 g54904 g54905 g54906 hf54913 hI54910 hF54911 hk54912
            refine qr_iload 17 rfl g54906 rfl ?_
            refine qr_aload_n 18 rfl g54902 rfl ?_
            refine qr_get 21 rfl rfl rfl (by decide) rfl ?_
            refine qy_v (σ 86 6) ((hk54912).trans rfl) ?_
            refine qr_icmp_ge 95 24 rfl rfl rfl (qrg hf54913 (by decide) (by decide)) (qrg hz86_6 (by decide) (by decide)) (fun h54916 => ?_) (fun h54916 => ?_)
            · skip
              refine qr_iinc _ 98 rfl g54905 (by decide) rfl rfl ?_
              refine qr_goto 3 rfl rfl ?_
              exact ih49388 _ (u49380 + 1) σ54908 α54909 (by omega) (qm_gk g54902 (by decide) (Or.inl (by decide))) (qm_gk g54903 (by decide) (Or.inl (by decide))) (qm_gk g54904 (by decide) (Or.inr rfl)) (qm_ge _ _ _) (by omega) hI54910 hF54911 ((hk54912).trans rfl)
            · skip
              refine qr_lload_n 25 rfl g54903 rfl ?_
              refine qr_aload_n 26 rfl g54902 rfl ?_
              refine qr_get 29 rfl rfl rfl (by decide) rfl ?_
              have hs54917 : (-9223372036854775808) ≤ σ54908 86 10 ∧ σ54908 86 10 ≤ 9223372036854775807 := hI54910.1 86 10
              refine qr_ldc2 (-1) 32 rfl (by decide) rfl ?_
              refine qr_lxor 33 rfl rfl ?_
              refine qy_canl (fun v54918 hv54918 => ?_)
              refine qr_land 34 rfl rfl ?_
              refine qy_canl (fun v54919 hv54919 => ?_)
              refine qr_iload 36 rfl g54905 rfl ?_
              refine qr_callN 39 rfl rfl rfl (sf_226 (d := d + 45) hI54910 hv54919 (qrg hf49386 (by decide) (by decide))) ?_
              rintro _ _ ⟨rfl, v54920, rfl, hv54920⟩
              show qr_W (qe L xs vb) (d + 46) qx_e248 _ (39, _, [.int (qz v54920)], qw σ54908 α54909 κ ρ, 0, 0)
              refine qr_if_eq 95 42 rfl rfl rfl (qrg hv54920 (by decide) (by decide)) (fun h54921 => ?_) (fun h54921 => ?_)
              · skip
                refine qr_iinc _ 98 rfl g54905 (by decide) rfl rfl ?_
                refine qr_goto 3 rfl rfl ?_
                exact ih49388 _ (u49380 + 1) σ54908 α54909 (by omega) (qm_gk g54902 (by decide) (Or.inl (by decide))) (qm_gk g54903 (by decide) (Or.inl (by decide))) (qm_gk g54904 (by decide) (Or.inr rfl)) (qm_ge _ _ _) (by omega) hI54910 hF54911 ((hk54912).trans rfl)
              · skip
                refine qr_iload 44 rfl g54906 rfl ?_
                refine qr_iload 46 rfl g54905 rfl ?_
                refine qr_icmp_eq 89 49 rfl rfl rfl (qrg hf54913 (by decide) (by decide)) (qrg hf49386 (by decide) (by decide)) (fun h54922 => ?_) (fun h54922 => ?_)
                · skip
                  refine qr_iinc _ 92 rfl g54906 (by decide) rfl rfl ?_
                  refine qr_goto 15 rfl rfl ?_
                  exact ih54915 _ (u54907 + 1) σ54908 α54909 (by omega) (qm_gk g54902 (by decide) (Or.inl (by decide))) (qm_gk g54903 (by decide) (Or.inl (by decide))) (qm_gk g54904 (by decide) (Or.inl (by decide))) (qm_gk g54905 (by decide) (Or.inr rfl)) (qm_ge _ _ _) (by omega) hI54910 hF54911 ((hk54912).trans rfl)
                · skip
                  refine qr_lload_n 50 rfl g54903 rfl ?_
                  refine qr_aload_n 51 rfl g54902 rfl ?_
                  refine qr_get 54 rfl rfl rfl (by decide) rfl ?_
                  refine qr_ldc2 (-1) 57 rfl (by decide) rfl ?_
                  refine qr_lxor 58 rfl rfl ?_
                  refine qy_canl (fun v54923 hv54923 => ?_)
                  refine qr_land 59 rfl rfl ?_
                  refine qy_canl (fun v54924 hv54924 => ?_)
                  refine qr_iload 61 rfl g54906 rfl ?_
                  refine qr_callN 64 rfl rfl rfl (sf_226 (d := d + 45) hI54910 hv54924 (qrg hf54913 (by decide) (by decide))) ?_
                  rintro _ _ ⟨rfl, v54925, rfl, hv54925⟩
                  show qr_W (qe L xs vb) (d + 46) qx_e248 _ (64, _, [.int (qz v54925)], qw σ54908 α54909 κ ρ, 0, 0)
                  refine qr_if_eq 89 67 rfl rfl rfl (qrg hv54925 (by decide) (by decide)) (fun h54926 => ?_) (fun h54926 => ?_)
                  · skip
                    refine qr_iinc _ 92 rfl g54906 (by decide) rfl rfl ?_
                    refine qr_goto 15 rfl rfl ?_
                    exact ih54915 _ (u54907 + 1) σ54908 α54909 (by omega) (qm_gk g54902 (by decide) (Or.inl (by decide))) (qm_gk g54903 (by decide) (Or.inl (by decide))) (qm_gk g54904 (by decide) (Or.inl (by decide))) (qm_gk g54905 (by decide) (Or.inr rfl)) (qm_ge _ _ _) (by omega) hI54910 hF54911 ((hk54912).trans rfl)
                  · skip
                    refine qr_aload_n 68 rfl g54902 rfl ?_
                    refine qr_iload 70 rfl g54905 rfl ?_
                    refine qr_iload 72 rfl g54906 rfl ?_
                    refine qr_lload_n 73 rfl g54903 rfl ?_
                    refine qr_iload_n 74 rfl g54904 rfl ?_
                    have hs54927 : 0 ≤ σ54908 86 6 ∧ σ54908 86 6 ≤ 32 := hI54910.1 86 6
                    have hs54928 : σ54908 86 6 = (σ 86 6) := (hk54912).trans rfl
                    refine qr_callN 77 rfl rfl rfl (sf_249_86 (d := d + 0) hI54910 (by omega) (by omega) r1 r2 (by omega)) ?_
                    rintro _ _ ⟨σ54930, α54931, rfl, hI54932, hG54933, v54929, rfl, hv54929⟩
                    have hF54934 : qFr [(86, 15), (86, 23), (86, 30), (86, 35), (86, 36), (86, 37), (86, 38), (86, 39)] [96, 109] σ α σ54930 α54931 := qFr_t hF54911 hG54933 (by decide) (by decide)
                    show qr_W (qe L xs vb) (d + 46) qx_e248 _ (77, _, [.int (qz v54929)], qw σ54930 α54931 κ ρ, 0, 0)
                    refine qr_if_eq 89 80 rfl rfl rfl (qrg hv54929 (by decide) (by decide)) (fun h54935 => ?_) (fun h54935 => ?_)
                    · skip
                      refine qr_iinc _ 92 rfl g54906 (by decide) rfl rfl ?_
                      refine qr_goto 15 rfl rfl ?_
                      exact ih54915 _ (u54907 + 1) σ54930 α54931 (by omega) (qm_gk g54902 (by decide) (Or.inl (by decide))) (qm_gk g54903 (by decide) (Or.inl (by decide))) (qm_gk g54904 (by decide) (Or.inl (by decide))) (qm_gk g54905 (by decide) (Or.inr rfl)) (qm_ge _ _ _) (by omega) hI54932 hF54934 ((hG54933.1 86 6 (by decide)).trans ((hk54912).trans rfl))
                    · skip
                      refine qr_bipush 82 rfl (by decide) rfl ?_
                      refine qr_iload 84 rfl g54905 rfl ?_
                      refine qr_imul 85 rfl rfl ?_
                      refine qr_iload 87 rfl g54906 rfl ?_
                      refine qr_iadd 88 rfl rfl ?_
                      refine qr_retI rfl rfl (by decide) (by decide) ?_
                      exact ⟨_, _, rfl, hI54932, hF54934, ((100 * u49380) + u54907), rfl, (by omega), by omega⟩
        exact hL54914 ((32 - 0 + 1 : Int)).toNat _ 0 σ49381 α49382 (by omega) (qm_gk g49376 (by decide) (Or.inl (by decide))) (qm_gk g49377 (by decide) (Or.inl (by decide))) (qm_gk g49378 (by decide) (Or.inl (by decide))) (qm_gk g49379 (by decide) (Or.inr rfl)) (qm_ge _ _ _) (by decide) hI49383 hF49384 ((hk49385).trans rfl)
  exact hL49387 ((32 - 0 + 1 : Int)).toNat _ 0 σ α (by omega) rfl rfl rfl rfl (by decide) hI hF0 (rfl)

set_option maxHeartbeats 4000000 in
set_option maxRecDepth 20000 in
/-- OneRoofModel.goesOn -/
theorem sf_246_86 {L : Nat} {xs : Nat → Int} {vb : Bool} {d : Nat} {σ α : Nat → Nat → Int} {κ : Nat → Option Nat} {ρ : Nat} {x1 : Int} {x2 : Int} {x3 : Int} {x4 : Int} (hI : qI σ α κ ρ) (r1 : 0 ≤ x1 ∧ x1 ≤ 3131) (r2 : (-9223372036854775808) ≤ x2 ∧ x2 ≤ 9223372036854775807) (r3 : (-2147483648) ≤ x3 ∧ x3 ≤ 2147483647) (r4 : 0 ≤ x4 ∧ x4 ≤ 1) (p0 : 1 ≤ σ 86 6) (p1 : x1 / 100 ≤ 31 ∧ x1 % 100 ≤ 31) : qm_T (qe L xs vb) (d + 48) 246 [.ref 86, .int (qz x1), .long (ql x2), .int (qz x3), .int (qz x4)] (qw σ α κ ρ) (fun r w' => ∃ σ' α', w' = qw σ' α' κ ρ ∧ qI σ' α' κ ρ ∧ qFr [(86, 4), (86, 5), (86, 10), (86, 15), (86, 23), (86, 29), (86, 30), (86, 35), (86, 36), (86, 37), (86, 38), (86, 39), (86, 50), (86, 51)] [87, 88, 89, 90, 96, 109, 115, 116] σ α σ' α' ∧ r = none) := by
  refine qr_start (d := d + 47) qv_e246 (Nat.le_of_ble_eq_true rfl) ?_
  show qr_W (qe L xs vb) (d + 47) qx_e246 _ (0, [(0, .ref 86), (1, .int (qz x1)), (2, .long (ql x2)), (4, .int (qz x3)), (5, .int (qz x4))], [], _, 0, 0)
  have hF0 := qFr_rf [(86, 4), (86, 5), (86, 10), (86, 15), (86, 23), (86, 29), (86, 30), (86, 35), (86, 36), (86, 37), (86, 38), (86, 39), (86, 50), (86, 51)] [87, 88, 89, 90, 96, 109, 115, 116] σ α
  have hz86_6 : 0 ≤ σ 86 6 ∧ σ 86 6 ≤ 32 := hI.1 86 6
  refine qr_aload_n 1 rfl rfl rfl ?_
  refine qr_iconst 2 rfl rfl ?_
  refine qr_put 5 rfl (by decide) rfl (Nat.le_of_ble_eq_true rfl) (Nat.le_of_ble_eq_true rfl) (Or.inl rfl) (qr_fitI rfl _) rfl ?_
  refine qy_wS (qw_s σ 86 50 0) rfl (fun σ1 e2 => ?_)
  have hI3 : qI σ1 α κ ρ := by rw [e2]; exact qI_s hI 86 50 rfl (show 0 ≤ 0 ∧ 0 ≤ 31 by omega)
  have hF4 : qFr [(86, 4), (86, 5), (86, 10), (86, 15), (86, 23), (86, 29), (86, 30), (86, 35), (86, 36), (86, 37), (86, 38), (86, 39), (86, 50), (86, 51)] [87, 88, 89, 90, 96, 109, 115, 116] σ α σ1 α := by rw [e2]; exact qFr_s hF0 86 50 _ (by decide)
  refine qr_iload_n 6 rfl rfl rfl ?_
  refine qr_istore _ 8 rfl (by decide) rfl rfl ?_
  have hL156 : ∀ (n : Nat) (ls : qm_L) (u148 : Int) (σ149 α150 : Nat → Nat → Int), ((31 - σ149 86 50).toNat : Int) < (n : Int) → qm_get ls 0 = some (.ref 86) → qm_get ls 2 = some (.long (ql x2)) → qm_get ls 4 = some (.int (qz x3)) → qm_get ls 5 = some (.int (qz x4)) → qm_get ls 6 = some (.int (qz u148)) → ((-1) ≤ u148 ∧ u148 ≤ 3131) → qI σ149 α150 κ ρ → qFr [(86, 4), (86, 5), (86, 10), (86, 15), (86, 23), (86, 29), (86, 30), (86, 35), (86, 36), (86, 37), (86, 38), (86, 39), (86, 50), (86, 51)] [87, 88, 89, 90, 96, 109, 115, 116] σ α σ149 α150 → σ149 86 6 = (σ 86 6) → (u148 = -1 ∨ (0 ≤ u148 ∧ u148 / 100 ≤ 31 ∧ u148 % 100 ≤ 31 ∧ σ149 86 50 ≤ 30)) → qr_W (qe L xs vb) (d + 47) qx_e246 (fun r w' => ∃ σ' α', w' = qw σ' α' κ ρ ∧ qI σ' α' κ ρ ∧ qFr [(86, 4), (86, 5), (86, 10), (86, 15), (86, 23), (86, 29), (86, 30), (86, 35), (86, 36), (86, 37), (86, 38), (86, 39), (86, 50), (86, 51)] [87, 88, 89, 90, 96, 109, 115, 116] σ α σ' α' ∧ r = none) (8, ls, [], qw σ149 α150 κ ρ, 0, 0) := by
    intro n
    induction n with
    | zero => intro ls u148 σ149 α150 hm g143 g144 g145 g146 g147 hf154 hI151 hF152 hk153 hx155; exact False.elim (by omega)
    | succ n ih157 =>
      intro ls u148 σ149 α150 hm g143 g144 g145 g146 g147 hf154 hI151 hF152 hk153 hx155
      have hs158 : 0 ≤ σ149 86 50 ∧ σ149 86 50 ≤ 31 := hI151.1 86 50
      refine qr_iload 10 rfl g147 rfl ?_
      refine qr_if_lt 56 13 rfl rfl rfl (qrg hf154 (by decide) (by decide)) (fun h159 => ?_) (fun h159 => ?_)
      · skip
        refine qr_aload_n 57 rfl g143 rfl ?_
        refine qr_lload_n 58 rfl g144 rfl ?_
        refine qr_aload_n 59 rfl g143 rfl ?_
        refine qr_get 62 rfl rfl rfl (by decide) rfl ?_
        have hs160 : (-9223372036854775808) ≤ σ149 86 10 ∧ σ149 86 10 ≤ 9223372036854775807 := hI151.1 86 10
        refine qr_ldc2 (-1) 65 rfl (by decide) rfl ?_
        refine qr_lxor 66 rfl rfl ?_
        refine qy_canl (fun v161 hv161 => ?_)
        refine qr_land 67 rfl rfl ?_
        refine qy_canl (fun v162 hv162 => ?_)
        refine qr_put 70 rfl (by decide) rfl (Nat.le_of_ble_eq_true rfl) (Nat.le_of_ble_eq_true rfl) (Or.inl rfl) (qr_fitL rfl _) rfl ?_
        refine qy_wS (qw_s σ149 86 51 v162) rfl (fun σ163 e164 => ?_)
        have hI165 : qI σ163 α150 κ ρ := by rw [e164]; exact qI_s hI151 86 51 rfl (show (-9223372036854775808) ≤ v162 ∧ v162 ≤ 9223372036854775807 by omega)
        have hF166 : qFr [(86, 4), (86, 5), (86, 10), (86, 15), (86, 23), (86, 29), (86, 30), (86, 35), (86, 36), (86, 37), (86, 38), (86, 39), (86, 50), (86, 51)] [87, 88, 89, 90, 96, 109, 115, 116] σ α σ163 α150 := by rw [e164]; exact qFr_s hF152 86 51 _ (by decide)
        refine qr_retV rfl rfl (by decide) (by decide) ?_
        exact ⟨_, _, rfl, hI165, hF166, rfl⟩
      · skip
        refine qr_aload_n 14 rfl g143 rfl ?_
        refine qr_iload 16 rfl g147 rfl ?_
        refine qr_bipush 18 rfl (by decide) rfl ?_
        refine qr_idiv 19 rfl (by omega) (by decide) rfl ?_
        refine qr_iload 21 rfl g147 rfl ?_
        refine qr_bipush 23 rfl (by decide) rfl ?_
        refine qr_irem 24 rfl (by omega) (by decide) rfl ?_
        refine qr_iload 26 rfl g145 rfl ?_
        refine qr_iload 28 rfl g146 rfl ?_
        have hs167 : 0 ≤ σ149 86 50 ∧ σ149 86 50 ≤ 31 := hI151.1 86 50
        have hs168 : 0 ≤ σ149 86 6 ∧ σ149 86 6 ≤ 32 := hI151.1 86 6
        have hs169 : σ149 86 6 = (σ 86 6) := (hk153).trans rfl
        refine qr_callN 31 rfl rfl rfl (sf_247_86 (d := d + 43) hI151 (by omega) (by omega) r3 r4 (by omega) (by omega)) ?_
        rintro _ _ ⟨σ171, α172, rfl, hI173, hG174, hw170, rfl⟩
        have hF175 : qFr [(86, 4), (86, 5), (86, 10), (86, 15), (86, 23), (86, 29), (86, 30), (86, 35), (86, 36), (86, 37), (86, 38), (86, 39), (86, 50), (86, 51)] [87, 88, 89, 90, 96, 109, 115, 116] σ α σ171 α172 := qFr_t hF152 hG174 (by decide) (by decide)
        have hs176 : 0 ≤ σ171 86 50 ∧ σ171 86 50 ≤ 31 := hI173.1 86 50
        show qr_W (qe L xs vb) (d + 47) qx_e246 _ (31, _, [], qw σ171 α172 κ ρ, 0, 0)
        refine qr_aload_n 32 rfl g143 rfl ?_
        refine qr_get 35 rfl rfl rfl (by decide) rfl ?_
        refine qr_bipush 37 rfl (by decide) rfl ?_
        refine qr_icmp_ne 44 40 rfl rfl rfl (by omega) (by decide) (fun h177 => ?_) (fun h177 => ?_)
        · skip
          refine qr_aload_n 45 rfl g143 rfl ?_
          refine qr_lload_n 46 rfl g144 rfl ?_
          refine qr_iload 48 rfl g145 rfl ?_
          refine qr_callN 51 rfl rfl rfl (sf_248_86 (d := d + 0) hI173 r2 r3) ?_
          rintro _ _ ⟨σ180, α181, rfl, hI182, hG183, v178, rfl, hv178, hp179⟩
          have hF184 : qFr [(86, 4), (86, 5), (86, 10), (86, 15), (86, 23), (86, 29), (86, 30), (86, 35), (86, 36), (86, 37), (86, 38), (86, 39), (86, 50), (86, 51)] [87, 88, 89, 90, 96, 109, 115, 116] σ α σ180 α181 := qFr_t hF175 hG183 (by decide) (by decide)
          show qr_W (qe L xs vb) (d + 47) qx_e246 _ (51, _, [.int (qz v178)], qw σ180 α181 κ ρ, 0, 0)
          refine qr_istore _ 53 rfl (by decide) rfl rfl ?_
          refine qr_goto 8 rfl rfl ?_
          exact ih157 _ v178 σ180 α181 (by have hw0 : σ180 86 50 = (σ171 86 50) := (hG183.1 86 50 (by decide)).trans rfl; omega) (qm_gk g143 (by decide) (Or.inl (by decide))) (qm_gk g144 (by decide) (Or.inl (by decide))) (qm_gk g145 (by decide) (Or.inl (by decide))) (qm_gk g146 (by decide) (Or.inr rfl)) (qm_ge _ _ _) hv178 hI182 hF184 ((hG183.1 86 6 (by decide)).trans ((hG174.1 86 6 (by decide)).trans ((hk153).trans rfl))) (by have hw0 : σ180 86 50 = (σ171 86 50) := (hG183.1 86 50 (by decide)).trans rfl; omega)
        · skip
          refine qr_iconst 41 rfl rfl ?_
          refine qr_goto 51 rfl rfl ?_
          refine qr_istore _ 53 rfl (by decide) rfl rfl ?_
          refine qr_goto 8 rfl rfl ?_
          exact ih157 _ (-1) σ171 α172 (by have hw0 : σ171 86 50 = (σ171 86 50) := rfl; omega) (qm_gk g143 (by decide) (Or.inl (by decide))) (qm_gk g144 (by decide) (Or.inl (by decide))) (qm_gk g145 (by decide) (Or.inl (by decide))) (qm_gk g146 (by decide) (Or.inr rfl)) (qm_ge _ _ _) (by decide) hI173 hF175 ((hG174.1 86 6 (by decide)).trans ((hk153).trans rfl)) (by have hw0 : σ171 86 50 = (σ171 86 50) := rfl; omega)
  exact hL156 ((((31 - σ1 86 50).toNat : Int) + 1 : Int)).toNat _ x1 σ1 α (by have hw0 : σ1 86 50 = 0 := (congrFun (congrFun e2 86) 50).trans rfl; omega) rfl rfl rfl rfl rfl (qrg r1 (by decide) (by decide)) hI3 hF4 ((congrFun (congrFun e2 86) 6).trans rfl) (by have hw0 : σ1 86 50 = 0 := (congrFun (congrFun e2 86) 50).trans rfl; omega)

set_option maxHeartbeats 4000000 in
set_option maxRecDepth 20000 in
/-- OneRoofModel.strike -/
theorem sf_245_86 {L : Nat} {xs : Nat → Int} {vb : Bool} {d : Nat} {σ α : Nat → Nat → Int} {κ : Nat → Option Nat} {ρ : Nat} {x1 : Int} {x2 : Int} {x3 : Int} {x4 : Int} (hI : qI σ α κ ρ) (r1 : (-2147483648) ≤ x1 ∧ x1 ≤ 2147483647) (r2 : (-9223372036854775808) ≤ x2 ∧ x2 ≤ 9223372036854775807) (r3 : (-2147483648) ≤ x3 ∧ x3 ≤ 2147483647) (r4 : (-2147483648) ≤ x4 ∧ x4 ≤ 2147483647) : qm_T (qe L xs vb) (d + 49) 245 [.ref 86, .int (qz x1), .long (ql x2), .int (qz x3), .int (qz x4)] (qw σ α κ ρ) (fun r w' => ∃ σ' α', w' = qw σ' α' κ ρ ∧ qI σ' α' κ ρ ∧ qFr [(86, 4), (86, 5), (86, 10), (86, 15), (86, 23), (86, 29), (86, 30), (86, 35), (86, 36), (86, 37), (86, 38), (86, 39), (86, 50), (86, 51)] [87, 88, 89, 90, 96, 109, 115, 116] σ α σ' α' ∧ ∃ v : Int, r = some (.int (qz v)) ∧ ((-2147483648) ≤ v ∧ v ≤ 2147483647)) := by
  refine qr_start (d := d + 48) qv_e245 (Nat.le_of_ble_eq_true rfl) ?_
  show qr_W (qe L xs vb) (d + 48) qx_e245 _ (0, [(0, .ref 86), (1, .int (qz x1)), (2, .long (ql x2)), (4, .int (qz x3)), (5, .int (qz x4))], [], _, 0, 0)
  have hF0 := qFr_rf [(86, 4), (86, 5), (86, 10), (86, 15), (86, 23), (86, 29), (86, 30), (86, 35), (86, 36), (86, 37), (86, 38), (86, 39), (86, 50), (86, 51)] [87, 88, 89, 90, 96, 109, 115, 116] σ α
  have hz86_6 : 0 ≤ σ 86 6 ∧ σ 86 6 ≤ 32 := hI.1 86 6
  refine qr_aload_n 1 rfl rfl rfl ?_
  refine qr_iload_n 2 rfl rfl rfl ?_
  refine qr_callN 5 rfl rfl rfl (sf_191_86 (d := d + 45) hI r1) ?_
  have hs3 : 0 ≤ σ 86 6 ∧ σ 86 6 ≤ 32 := hI.1 86 6
  rintro _ _ ⟨rfl, v1, rfl, hv1, hp2⟩
  show qr_W (qe L xs vb) (d + 48) qx_e245 _ (5, _, [.int (qz v1)], qw σ α κ ρ, 0, 0)
  refine qr_if_eq 35 8 rfl rfl rfl (qrg hv1 (by decide) (by decide)) (fun h4 => ?_) (fun h4 => ?_)
  · skip
    refine qr_iconst 36 rfl rfl ?_
    refine qr_retI rfl rfl (by decide) (by decide) ?_
    exact ⟨_, _, rfl, hI, hF0, (-1), rfl, (by decide)⟩
  · skip
    refine qr_aload_n 9 rfl rfl rfl ?_
    refine qr_lload_n 10 rfl rfl rfl ?_
    refine qr_callN 13 rfl rfl rfl (sf_225_86 (d := d + 47) hI r2) ?_
    rintro _ _ ⟨rfl, v5, rfl, hv5⟩
    show qr_W (qe L xs vb) (d + 48) qx_e245 _ (13, _, [.int (qz v5)], qw σ α κ ρ, 0, 0)
    refine qr_if_eq 35 16 rfl rfl rfl (qrg hv5 (by decide) (by decide)) (fun h6 => ?_) (fun h6 => ?_)
    · skip
      refine qr_iconst 36 rfl rfl ?_
      refine qr_retI rfl rfl (by decide) (by decide) ?_
      exact ⟨_, _, rfl, hI, hF0, (-1), rfl, (by decide)⟩
    · skip
      refine qr_iload 18 rfl rfl rfl ?_
      refine qr_callN 21 rfl rfl rfl (sf_192 (d := d + 46) hI r3) ?_
      rintro _ _ ⟨rfl, v7, rfl, hv7, hp8⟩
      show qr_W (qe L xs vb) (d + 48) qx_e245 _ (21, _, [.int (qz v7)], qw σ α κ ρ, 0, 0)
      refine qr_if_eq 35 24 rfl rfl rfl (qrg hv7 (by decide) (by decide)) (fun h9 => ?_) (fun h9 => ?_)
      · skip
        refine qr_iconst 36 rfl rfl ?_
        refine qr_retI rfl rfl (by decide) (by decide) ?_
        exact ⟨_, _, rfl, hI, hF0, (-1), rfl, (by decide)⟩
      · skip
        refine qr_iload 26 rfl rfl rfl ?_
        refine qr_i2l 27 rfl r4 rfl ?_
        refine qr_lconst 28 rfl rfl ?_
        refine qy_vl 0 rfl ?_
        refine qr_lconst 29 rfl rfl ?_
        refine qy_vl 1 rfl ?_
        refine qr_callN 32 rfl rfl rfl (sf_176 (d := d + 47) hI (qrg r4 (by decide) (by decide)) (by decide) (by decide)) ?_
        rintro _ _ ⟨rfl, v10, rfl, hv10, hp11⟩
        show qr_W (qe L xs vb) (d + 48) qx_e245 _ (32, _, [.int (qz v10)], qw σ α κ ρ, 0, 0)
        refine qr_if_ne 37 35 rfl rfl rfl (qrg hv10 (by decide) (by decide)) (fun h12 => ?_) (fun h12 => ?_)
        · skip
          refine qr_lload_n 38 rfl rfl rfl ?_
          refine qr_aload_n 39 rfl rfl rfl ?_
          refine qr_get 42 rfl rfl rfl (by decide) rfl ?_
          have hs13 : (-9223372036854775808) ≤ σ 86 10 ∧ σ 86 10 ≤ 9223372036854775807 := hI.1 86 10
          refine qr_ldc2 (-1) 45 rfl (by decide) rfl ?_
          refine qr_lxor 46 rfl rfl ?_
          refine qy_canl (fun v14 hv14 => ?_)
          refine qr_land 47 rfl rfl ?_
          refine qy_canl (fun v15 hv15 => ?_)
          refine qr_lstore _ 49 rfl (by decide) rfl rfl ?_
          refine qr_lload 51 rfl rfl rfl ?_
          refine qr_iload_n 52 rfl rfl rfl ?_
          refine qr_bipush 54 rfl (by decide) rfl ?_
          refine qr_idiv 55 rfl (by omega) (by decide) rfl ?_
          refine qr_callN 58 rfl rfl rfl (sf_226 (d := d + 47) hI hv15 (by omega)) ?_
          rintro _ _ ⟨rfl, v16, rfl, hv16⟩
          show qr_W (qe L xs vb) (d + 48) qx_e245 _ (58, _, [.int (qz v16)], qw σ α κ ρ, 0, 0)
          refine qr_if_eq 73 61 rfl rfl rfl (qrg hv16 (by decide) (by decide)) (fun h17 => ?_) (fun h17 => ?_)
          · skip
            refine qr_iconst 74 rfl rfl ?_
            refine qr_retI rfl rfl (by decide) (by decide) ?_
            exact ⟨_, _, rfl, hI, hF0, (-1), rfl, (by decide)⟩
          · skip
            refine qr_lload 63 rfl rfl rfl ?_
            refine qr_iload_n 64 rfl rfl rfl ?_
            refine qr_bipush 66 rfl (by decide) rfl ?_
            refine qr_irem 67 rfl (by omega) (by decide) rfl ?_
            refine qr_callN 70 rfl rfl rfl (sf_226 (d := d + 47) hI hv15 (by omega)) ?_
            rintro _ _ ⟨rfl, v18, rfl, hv18⟩
            show qr_W (qe L xs vb) (d + 48) qx_e245 _ (70, _, [.int (qz v18)], qw σ α κ ρ, 0, 0)
            refine qr_if_ne 75 73 rfl rfl rfl (qrg hv18 (by decide) (by decide)) (fun h19 => ?_) (fun h19 => ?_)
            · skip
              refine qr_aload_n 76 rfl rfl rfl ?_
              refine qr_get 79 rfl rfl rfl (by decide) rfl ?_
              refine qr_lstore _ 81 rfl (by decide) rfl rfl ?_
              refine qr_aload_n 82 rfl rfl rfl ?_
              refine qr_iload_n 83 rfl rfl rfl ?_
              refine qr_lload 85 rfl rfl rfl ?_
              refine qr_iload 87 rfl rfl rfl ?_
              refine qr_iload 89 rfl rfl rfl ?_
              refine qr_iconst 90 rfl rfl ?_
              have hJ25 : ∀ (ls : qm_L) (u23 : Int), qm_get ls 0 = some (.ref 86) → qm_get ls 5 = some (.int (qz x4)) → qm_get ls 8 = some (.long (ql (σ 86 10))) → (0 ≤ u23 ∧ u23 ≤ 1) → qr_W (qe L xs vb) (d + 48) qx_e245 (fun r w' => ∃ σ' α', w' = qw σ' α' κ ρ ∧ qI σ' α' κ ρ ∧ qFr [(86, 4), (86, 5), (86, 10), (86, 15), (86, 23), (86, 29), (86, 30), (86, 35), (86, 36), (86, 37), (86, 38), (86, 39), (86, 50), (86, 51)] [87, 88, 89, 90, 96, 109, 115, 116] σ α σ' α' ∧ ∃ v : Int, r = some (.int (qz v)) ∧ ((-2147483648) ≤ v ∧ v ≤ 2147483647)) (98, ls, [.int (qz u23), .int (qz x3), .long (ql v15), .int (qz x1), .ref 86], qw σ α κ ρ, 0, 0) := by
                intro ls u23 g20 g21 g22 hf24
                have hs26 : 0 ≤ σ 86 6 ∧ σ 86 6 ≤ 32 := hI.1 86 6
                refine qr_callN 101 rfl rfl rfl (sf_246_86 (d := d + 0) hI (by omega) hv15 r3 hf24 (by omega) (by omega)) ?_
                rintro _ _ ⟨σ27, α28, rfl, hI29, hG30, rfl⟩
                have hF31 : qFr [(86, 4), (86, 5), (86, 10), (86, 15), (86, 23), (86, 29), (86, 30), (86, 35), (86, 36), (86, 37), (86, 38), (86, 39), (86, 50), (86, 51)] [87, 88, 89, 90, 96, 109, 115, 116] σ α σ27 α28 := qFr_t hF0 hG30 (by decide) (by decide)
                show qr_W (qe L xs vb) (d + 48) qx_e245 _ (101, _, [], qw σ27 α28 κ ρ, 0, 0)
                refine qr_iload 103 rfl g21 rfl ?_
                refine qr_if_ne 117 106 rfl rfl rfl r4 (fun h32 => ?_) (fun h32 => ?_)
                · skip
                  refine qr_aload_n 118 rfl g20 rfl ?_
                  refine qr_get 121 rfl rfl rfl (by decide) rfl ?_
                  have hs33 : 0 ≤ σ27 86 50 ∧ σ27 86 50 ≤ 31 := hI29.1 86 50
                  refine qr_retI rfl rfl (by decide) (by decide) ?_
                  exact ⟨_, _, rfl, hI29, hF31, (σ27 86 50), rfl, (qrg hs33 (by decide) (by decide))⟩
                · skip
                  refine qr_aload_n 107 rfl g20 rfl ?_
                  refine qr_lload 109 rfl g22 rfl ?_
                  refine qr_put 112 rfl (by decide) rfl (Nat.le_of_ble_eq_true rfl) (Nat.le_of_ble_eq_true rfl) (Or.inl rfl) (qr_fitL rfl _) rfl ?_
                  refine qy_wS (qw_s σ27 86 10 (σ 86 10)) rfl (fun σ34 e35 => ?_)
                  have hI36 : qI σ34 α28 κ ρ := by rw [e35]; exact qI_s hI29 86 10 rfl (show (-9223372036854775808) ≤ (σ 86 10) ∧ (σ 86 10) ≤ 9223372036854775807 by omega)
                  have hF37 : qFr [(86, 4), (86, 5), (86, 10), (86, 15), (86, 23), (86, 29), (86, 30), (86, 35), (86, 36), (86, 37), (86, 38), (86, 39), (86, 50), (86, 51)] [87, 88, 89, 90, 96, 109, 115, 116] σ α σ34 α28 := by rw [e35]; exact qFr_s hF31 86 10 _ (by decide)
                  refine qr_aload_n 113 rfl g20 rfl ?_
                  refine qr_lconst 114 rfl rfl ?_
                  refine qy_vl 0 rfl ?_
                  refine qr_put 117 rfl (by decide) rfl (Nat.le_of_ble_eq_true rfl) (Nat.le_of_ble_eq_true rfl) (Or.inl rfl) (qr_fitL rfl _) rfl ?_
                  refine qy_wS (qw_s σ34 86 29 0) rfl (fun σ38 e39 => ?_)
                  have hI40 : qI σ38 α28 κ ρ := by rw [e39]; exact qI_s hI36 86 29 rfl (show (-9223372036854775808) ≤ 0 ∧ 0 ≤ 9223372036854775807 by omega)
                  have hF41 : qFr [(86, 4), (86, 5), (86, 10), (86, 15), (86, 23), (86, 29), (86, 30), (86, 35), (86, 36), (86, 37), (86, 38), (86, 39), (86, 50), (86, 51)] [87, 88, 89, 90, 96, 109, 115, 116] σ α σ38 α28 := by rw [e39]; exact qFr_s hF37 86 29 _ (by decide)
                  refine qr_aload_n 118 rfl g20 rfl ?_
                  refine qr_get 121 rfl rfl rfl (by decide) rfl ?_
                  have hs42 : 0 ≤ σ38 86 50 ∧ σ38 86 50 ≤ 31 := hI40.1 86 50
                  refine qr_retI rfl rfl (by decide) (by decide) ?_
                  exact ⟨_, _, rfl, hI40, hF41, (σ38 86 50), rfl, (qrg hs42 (by decide) (by decide))⟩
              refine qr_icmp_ne 97 93 rfl rfl rfl r4 (by decide) (fun h43 => ?_) (fun h43 => ?_)
              · skip
                refine qr_iconst 98 rfl rfl ?_
                exact hJ25 _ 0 rfl rfl rfl (by decide)
              · skip
                refine qr_iconst 94 rfl rfl ?_
                refine qr_goto 98 rfl rfl ?_
                exact hJ25 _ 1 rfl rfl rfl (by decide)
            · skip
              refine qr_iconst 74 rfl rfl ?_
              refine qr_retI rfl rfl (by decide) (by decide) ?_
              exact ⟨_, _, rfl, hI, hF0, (-1), rfl, (by decide)⟩
        · skip
          refine qr_iconst 36 rfl rfl ?_
          refine qr_retI rfl rfl (by decide) (by decide) ?_
          exact ⟨_, _, rfl, hI, hF0, (-1), rfl, (by decide)⟩

set_option maxHeartbeats 4000000 in
set_option maxRecDepth 20000 in
/-- OneRoofModel.worst -/
theorem sf_252_86 {L : Nat} {xs : Nat → Int} {vb : Bool} {d : Nat} {σ α : Nat → Nat → Int} {κ : Nat → Option Nat} {ρ : Nat} {x1 : Int} {x2 : Int} (hI : qI σ α κ ρ) (r1 : (-9223372036854775808) ≤ x1 ∧ x1 ≤ 9223372036854775807) (r2 : (-2147483648) ≤ x2 ∧ x2 ≤ 2147483647) : qm_T (qe L xs vb) (d + 49) 252 [.ref 86, .long (ql x1), .int (qz x2)] (qw σ α κ ρ) (fun r w' => ∃ σ' α', w' = qw σ' α' κ ρ ∧ qI σ' α' κ ρ ∧ qFr [(86, 4), (86, 5), (86, 10), (86, 15), (86, 23), (86, 29), (86, 30), (86, 35), (86, 36), (86, 37), (86, 38), (86, 39), (86, 50), (86, 51)] [87, 88, 89, 90, 96, 109, 115, 116, 117, 118] σ α σ' α' ∧ ∃ v : Int, r = some (.int (qz v)) ∧ ((-2147483648) ≤ v ∧ v ≤ 2147483647)) := by
  refine qr_start (d := d + 48) qv_e252 (Nat.le_of_ble_eq_true rfl) ?_
  show qr_W (qe L xs vb) (d + 48) qx_e252 _ (0, [(0, .ref 86), (1, .long (ql x1)), (3, .int (qz x2))], [], _, 0, 0)
  have hF0 := qFr_rf [(86, 4), (86, 5), (86, 10), (86, 15), (86, 23), (86, 29), (86, 30), (86, 35), (86, 36), (86, 37), (86, 38), (86, 39), (86, 50), (86, 51)] [87, 88, 89, 90, 96, 109, 115, 116, 117, 118] σ α
  have hz86_6 : 0 ≤ σ 86 6 ∧ σ 86 6 ≤ 32 := hI.1 86 6
  refine qr_aload_n 1 rfl rfl rfl ?_
  refine qr_lload_n 2 rfl rfl rfl ?_
  refine qr_callN 5 rfl rfl rfl (sf_225_86 (d := d + 47) hI r1) ?_
  rintro _ _ ⟨rfl, v1, rfl, hv1⟩
  show qr_W (qe L xs vb) (d + 48) qx_e252 _ (5, _, [.int (qz v1)], qw σ α κ ρ, 0, 0)
  refine qr_if_eq 15 8 rfl rfl rfl (qrg hv1 (by decide) (by decide)) (fun h2 => ?_) (fun h2 => ?_)
  · skip
    refine qr_iconst 16 rfl rfl ?_
    refine qr_retI rfl rfl (by decide) (by decide) ?_
    exact ⟨_, _, rfl, hI, hF0, (-1), rfl, (by decide)⟩
  · skip
    refine qr_iload_n 9 rfl rfl rfl ?_
    refine qr_callN 12 rfl rfl rfl (sf_192 (d := d + 46) hI r2) ?_
    rintro _ _ ⟨rfl, v3, rfl, hv3, hp4⟩
    show qr_W (qe L xs vb) (d + 48) qx_e252 _ (12, _, [.int (qz v3)], qw σ α κ ρ, 0, 0)
    refine qr_if_ne 17 15 rfl rfl rfl (qrg hv3 (by decide) (by decide)) (fun h5 => ?_) (fun h5 => ?_)
    · skip
      refine qr_lload_n 18 rfl rfl rfl ?_
      refine qr_aload_n 19 rfl rfl rfl ?_
      refine qr_get 22 rfl rfl rfl (by decide) rfl ?_
      have hs6 : (-9223372036854775808) ≤ σ 86 10 ∧ σ 86 10 ≤ 9223372036854775807 := hI.1 86 10
      refine qr_ldc2 (-1) 25 rfl (by decide) rfl ?_
      refine qr_lxor 26 rfl rfl ?_
      refine qy_canl (fun v7 hv7 => ?_)
      refine qr_land 27 rfl rfl ?_
      refine qy_canl (fun v8 hv8 => ?_)
      refine qr_lstore _ 29 rfl (by decide) rfl rfl ?_
      refine qr_aload_n 30 rfl rfl rfl ?_
      refine qr_get 33 rfl rfl rfl (by decide) rfl ?_
      refine qr_lstore _ 35 rfl (by decide) rfl rfl ?_
      refine qr_aload_n 36 rfl rfl rfl ?_
      refine qr_get 39 rfl rfl rfl (by decide) rfl ?_
      have hs9 : (-9223372036854775808) ≤ σ 86 51 ∧ σ 86 51 ≤ 9223372036854775807 := hI.1 86 51
      refine qr_lstore _ 41 rfl (by decide) rfl rfl ?_
      refine qr_aload_n 42 rfl rfl rfl ?_
      refine qr_get 45 rfl rfl rfl (by decide) rfl ?_
      have hs10 : 0 ≤ σ 86 50 ∧ σ 86 50 ≤ 31 := hI.1 86 50
      refine qr_istore _ 47 rfl (by decide) rfl rfl ?_
      refine qr_iconst 48 rfl rfl ?_
      refine qr_istore _ 50 rfl (by decide) rfl rfl ?_
      have hL252448 : ∀ (n : Nat) (ls : qm_L) (u252442 : Int) (α252444 : Nat → Nat → Int), 31 - u252442 < (n : Int) → qm_get ls 0 = some (.ref 86) → qm_get ls 3 = some (.int (qz x2)) → qm_get ls 4 = some (.long (ql v8)) → qm_get ls 6 = some (.long (ql (σ 86 10))) → qm_get ls 8 = some (.long (ql (σ 86 51))) → qm_get ls 10 = some (.int (qz (σ 86 50))) → qm_get ls 11 = some (.int (qz u252442)) → (0 ≤ u252442 ∧ u252442 ≤ 31) → qI σ α252444 κ ρ → qFr [(86, 4), (86, 5), (86, 10), (86, 15), (86, 23), (86, 29), (86, 30), (86, 35), (86, 36), (86, 37), (86, 38), (86, 39), (86, 50), (86, 51)] [87, 88, 89, 90, 96, 109, 115, 116, 117, 118] σ α σ α252444 → qr_W (qe L xs vb) (d + 48) qx_e252 (fun r w' => ∃ σ' α', w' = qw σ' α' κ ρ ∧ qI σ' α' κ ρ ∧ qFr [(86, 4), (86, 5), (86, 10), (86, 15), (86, 23), (86, 29), (86, 30), (86, 35), (86, 36), (86, 37), (86, 38), (86, 39), (86, 50), (86, 51)] [87, 88, 89, 90, 96, 109, 115, 116, 117, 118] σ α σ' α' ∧ ∃ v : Int, r = some (.int (qz v)) ∧ ((-2147483648) ≤ v ∧ v ≤ 2147483647)) (50, ls, [], qw σ α252444 κ ρ, 0, 0) := by
        intro n
        induction n with
        | zero => intro ls u252442 α252444 hm g252435 g252436 g252437 g252438 g252439 g252440 g252441 hf252447 hI252445 hF252446; exact False.elim (by omega)
        | succ n ih252449 =>
          intro ls u252442 α252444 hm g252435 g252436 g252437 g252438 g252439 g252440 g252441 hf252447 hI252445 hF252446
          refine qr_iload 52 rfl g252441 rfl ?_
          refine qr_bipush 54 rfl (by decide) rfl ?_
          refine qr_icmp_ge 91 57 rfl rfl rfl (qrg hf252447 (by decide) (by decide)) (by decide) (fun h252462 => ?_) (fun h252462 => ?_)
          · skip
            refine qr_bipush 93 rfl (by decide) rfl ?_
            refine qr_istore _ 95 rfl (by decide) rfl rfl ?_
            refine qr_bipush 97 rfl (by decide) rfl ?_
            refine qr_istore _ 99 rfl (by decide) rfl rfl ?_
            refine qr_iconst 100 rfl rfl ?_
            refine qr_istore _ 102 rfl (by decide) rfl rfl ?_
            have hL311574 : ∀ (n : Nat) (ls : qm_L) (u311561 u311563 u311565 : Int) (σ311566 α311567 : Nat → Nat → Int), 32 - u311565 < (n : Int) → qm_get ls 0 = some (.ref 86) → qm_get ls 3 = some (.int (qz x2)) → qm_get ls 4 = some (.long (ql v8)) → qm_get ls 6 = some (.long (ql (σ 86 10))) → qm_get ls 8 = some (.long (ql (σ 86 51))) → qm_get ls 10 = some (.int (qz (σ 86 50))) → qm_get ls 11 = some (.int (qz u311561)) → qm_get ls 12 = some (.int (qz u311563)) → qm_get ls 13 = some (.int (qz u311565)) → ((-2) ≤ u311561 ∧ u311561 ≤ 3131) → ((-2147483648) ≤ u311563 ∧ u311563 ≤ 2147483647) → (0 ≤ u311565 ∧ u311565 ≤ 32) → qI σ311566 α311567 κ ρ → qFr [(86, 4), (86, 5), (86, 10), (86, 15), (86, 23), (86, 29), (86, 30), (86, 35), (86, 36), (86, 37), (86, 38), (86, 39), (86, 50), (86, 51)] [87, 88, 89, 90, 96, 109, 115, 116, 117, 118] σ α σ311566 α311567 → σ311566 86 6 = (σ 86 6) → qr_W (qe L xs vb) (d + 48) qx_e252 (fun r w' => ∃ σ' α', w' = qw σ' α' κ ρ ∧ qI σ' α' κ ρ ∧ qFr [(86, 4), (86, 5), (86, 10), (86, 15), (86, 23), (86, 29), (86, 30), (86, 35), (86, 36), (86, 37), (86, 38), (86, 39), (86, 50), (86, 51)] [87, 88, 89, 90, 96, 109, 115, 116, 117, 118] σ α σ' α' ∧ ∃ v : Int, r = some (.int (qz v)) ∧ ((-2147483648) ≤ v ∧ v ≤ 2147483647)) (102, ls, [], qw σ311566 α311567 κ ρ, 0, 0) := by
              intro n
              induction n with
              | zero => intro ls u311561 u311563 u311565 σ311566 α311567 hm g311554 g311555 g311556 g311557 g311558 g311559 g311560 g311562 g311564 hf311571 hf311572 hf311573 hI311568 hF311569 hk311570; exact False.elim (by omega)
              | succ n ih311575 =>
                intro ls u311561 u311563 u311565 σ311566 α311567 hm g311554 g311555 g311556 g311557 g311558 g311559 g311560 g311562 g311564 hf311571 hf311572 hf311573 hI311568 hF311569 hk311570
                refine qr_iload 104 rfl g311564 rfl ?_
                refine qr_aload_n 105 rfl g311554 rfl ?_
                refine qr_get 108 rfl rfl rfl (by decide) rfl ?_
                refine qy_v (σ 86 6) ((hk311570).trans rfl) ?_
                refine qr_icmp_ge 223 111 rfl rfl rfl (qrg hf311573 (by decide) (by decide)) (qrg hz86_6 (by decide) (by decide)) (fun h313423 => ?_) (fun h313423 => ?_)
                · skip
                  refine qr_aload_n 224 rfl g311554 rfl ?_
                  refine qr_lload 226 rfl g311558 rfl ?_
                  refine qr_put 229 rfl (by decide) rfl (Nat.le_of_ble_eq_true rfl) (Nat.le_of_ble_eq_true rfl) (Or.inl rfl) (qr_fitL rfl _) rfl ?_
                  refine qy_wS (qw_s σ311566 86 51 (σ 86 51)) rfl (fun σ313424 e313425 => ?_)
                  have hI313426 : qI σ313424 α311567 κ ρ := by rw [e313425]; exact qI_s hI311568 86 51 rfl (show (-9223372036854775808) ≤ (σ 86 51) ∧ (σ 86 51) ≤ 9223372036854775807 by omega)
                  have hF313427 : qFr [(86, 4), (86, 5), (86, 10), (86, 15), (86, 23), (86, 29), (86, 30), (86, 35), (86, 36), (86, 37), (86, 38), (86, 39), (86, 50), (86, 51)] [87, 88, 89, 90, 96, 109, 115, 116, 117, 118] σ α σ313424 α311567 := by rw [e313425]; exact qFr_s hF311569 86 51 _ (by decide)
                  refine qr_aload_n 230 rfl g311554 rfl ?_
                  refine qr_iload 232 rfl g311559 rfl ?_
                  refine qr_put 235 rfl (by decide) rfl (Nat.le_of_ble_eq_true rfl) (Nat.le_of_ble_eq_true rfl) (Or.inl rfl) (qr_fitI rfl _) rfl ?_
                  refine qy_wS (qw_s σ313424 86 50 (σ 86 50)) rfl (fun σ313428 e313429 => ?_)
                  have hI313430 : qI σ313428 α311567 κ ρ := by rw [e313429]; exact qI_s hI313426 86 50 rfl (show 0 ≤ (σ 86 50) ∧ (σ 86 50) ≤ 31 by omega)
                  have hF313431 : qFr [(86, 4), (86, 5), (86, 10), (86, 15), (86, 23), (86, 29), (86, 30), (86, 35), (86, 36), (86, 37), (86, 38), (86, 39), (86, 50), (86, 51)] [87, 88, 89, 90, 96, 109, 115, 116, 117, 118] σ α σ313428 α311567 := by rw [e313429]; exact qFr_s hF313427 86 50 _ (by decide)
                  refine qr_iconst 236 rfl rfl ?_
                  refine qr_istore _ 238 rfl (by decide) rfl rfl ?_
                  have hL313665 : ∀ (n : Nat) (ls : qm_L) (u313659 : Int) (α313661 : Nat → Nat → Int), 31 - u313659 < (n : Int) → qm_get ls 0 = some (.ref 86) → qm_get ls 11 = some (.int (qz u311561)) → qm_get ls 13 = some (.int (qz u313659)) → (0 ≤ u313659 ∧ u313659 ≤ 31) → qI σ313428 α313661 κ ρ → qFr [(86, 4), (86, 5), (86, 10), (86, 15), (86, 23), (86, 29), (86, 30), (86, 35), (86, 36), (86, 37), (86, 38), (86, 39), (86, 50), (86, 51)] [87, 88, 89, 90, 96, 109, 115, 116, 117, 118] σ α σ313428 α313661 → qr_W (qe L xs vb) (d + 48) qx_e252 (fun r w' => ∃ σ' α', w' = qw σ' α' κ ρ ∧ qI σ' α' κ ρ ∧ qFr [(86, 4), (86, 5), (86, 10), (86, 15), (86, 23), (86, 29), (86, 30), (86, 35), (86, 36), (86, 37), (86, 38), (86, 39), (86, 50), (86, 51)] [87, 88, 89, 90, 96, 109, 115, 116, 117, 118] σ α σ' α' ∧ ∃ v : Int, r = some (.int (qz v)) ∧ ((-2147483648) ≤ v ∧ v ≤ 2147483647)) (238, ls, [], qw σ313428 α313661 κ ρ, 0, 0) := by
                    intro n
                    induction n with
                    | zero => intro ls u313659 α313661 hm g313656 g313657 g313658 hf313664 hI313662 hF313663; exact False.elim (by omega)
                    | succ n ih313666 =>
                      intro ls u313659 α313661 hm g313656 g313657 g313658 hf313664 hI313662 hF313663
                      refine qr_iload 240 rfl g313658 rfl ?_
                      refine qr_bipush 242 rfl (by decide) rfl ?_
                      refine qr_icmp_ge 279 245 rfl rfl rfl (qrg hf313664 (by decide) (by decide)) (by decide) (fun h313667 => ?_) (fun h313667 => ?_)
                      · skip
                        refine qr_iload 281 rfl g313657 rfl ?_
                        refine qr_retI rfl rfl (by decide) (by decide) ?_
                        exact ⟨_, _, rfl, hI313662, hF313663, u311561, rfl, (qrg hf311571 (by decide) (by decide))⟩
                      · skip
                        refine qr_aload_n 246 rfl g313656 rfl ?_
                        refine qr_get 249 rfl rfl rfl (by decide) rfl ?_
                        refine qr_iload 251 rfl g313658 rfl ?_
                        refine qr_aload_n 252 rfl g313656 rfl ?_
                        refine qr_get 255 rfl rfl rfl (by decide) rfl ?_
                        refine qr_iload 257 rfl g313658 rfl ?_
                        refine qr_iaload 258 rfl rfl (by omega) (by decide) rfl ?_
                        refine qr_topI (fun v313668 hv313668 => ?_)
                        have hs313669 : 0 ≤ v313668 ∧ v313668 ≤ 31 := by rw [hv313668]; exact hI313662.2.1 117 _ (show _ < 31 by omega)
                        refine qr_iastore 259 rfl (by decide) rfl (by omega) (by decide) rfl ?_
                        refine qy_wA (qw_r α313661 115 (qzu (α313661 115) (u313659 : Int).toNat v313668)) rfl (fun α313670 e313671 => ?_)
                        have hI313672 : qI σ313428 α313670 κ ρ := by rw [e313671]; exact qI_r hI313662 115 _ rfl (show 0 ≤ v313668 ∧ v313668 ≤ 31 by omega)
                        have hF313673 : qFr [(86, 4), (86, 5), (86, 10), (86, 15), (86, 23), (86, 29), (86, 30), (86, 35), (86, 36), (86, 37), (86, 38), (86, 39), (86, 50), (86, 51)] [87, 88, 89, 90, 96, 109, 115, 116, 117, 118] σ α σ313428 α313670 := by rw [e313671]; exact qFr_r hF313663 115 _ (by decide)
                        refine qr_aload_n 260 rfl g313656 rfl ?_
                        refine qr_get 263 rfl rfl rfl (by decide) rfl ?_
                        refine qr_iload 265 rfl g313658 rfl ?_
                        refine qr_aload_n 266 rfl g313656 rfl ?_
                        refine qr_get 269 rfl rfl rfl (by decide) rfl ?_
                        refine qr_iload 271 rfl g313658 rfl ?_
                        refine qr_iaload 272 rfl rfl (by omega) (by decide) rfl ?_
                        refine qr_topI (fun v313674 hv313674 => ?_)
                        have hs313675 : 0 ≤ v313674 ∧ v313674 ≤ 31 := by rw [hv313674]; exact hI313672.2.1 118 _ (show _ < 31 by omega)
                        refine qr_iastore 273 rfl (by decide) rfl (by omega) (by decide) rfl ?_
                        refine qy_wA (qw_r α313670 116 (qzu (α313670 116) (u313659 : Int).toNat v313674)) rfl (fun α313676 e313677 => ?_)
                        have hI313678 : qI σ313428 α313676 κ ρ := by rw [e313677]; exact qI_r hI313672 116 _ rfl (show 0 ≤ v313674 ∧ v313674 ≤ 31 by omega)
                        have hF313679 : qFr [(86, 4), (86, 5), (86, 10), (86, 15), (86, 23), (86, 29), (86, 30), (86, 35), (86, 36), (86, 37), (86, 38), (86, 39), (86, 50), (86, 51)] [87, 88, 89, 90, 96, 109, 115, 116, 117, 118] σ α σ313428 α313676 := by rw [e313677]; exact qFr_r hF313673 116 _ (by decide)
                        refine qr_iinc _ 276 rfl g313658 (by decide) rfl rfl ?_
                        refine qr_goto 238 rfl rfl ?_
                        exact ih313666 _ (u313659 + 1) α313676 (by omega) (qm_gk g313656 (by decide) (Or.inl (by decide))) (qm_gk g313657 (by decide) (Or.inl (by decide))) (qm_ge _ _ _) (by omega) hI313678 hF313679
                  exact hL313665 ((31 - 0 + 1 : Int)).toNat _ 0 α311567 (by omega) (qm_gk g311554 (by decide) (Or.inl (by decide))) (qm_gk g311560 (by decide) (Or.inl (by decide))) (qm_ge _ _ _) (by decide) hI313430 hF313431
                · skip
                  refine qr_iconst 112 rfl rfl ?_
                  refine qr_istore _ 114 rfl (by decide) rfl rfl ?_
                  have hL315429 : ∀ (n : Nat) (ls : qm_L) (u315415 u315417 u315420 : Int) (σ315421 α315422 : Nat → Nat → Int), 32 - u315420 < (n : Int) → qm_get ls 0 = some (.ref 86) → qm_get ls 3 = some (.int (qz x2)) → qm_get ls 4 = some (.long (ql v8)) → qm_get ls 6 = some (.long (ql (σ 86 10))) → qm_get ls 8 = some (.long (ql (σ 86 51))) → qm_get ls 10 = some (.int (qz (σ 86 50))) → qm_get ls 11 = some (.int (qz u315415)) → qm_get ls 12 = some (.int (qz u315417)) → qm_get ls 13 = some (.int (qz u311565)) → qm_get ls 14 = some (.int (qz u315420)) → ((-2) ≤ u315415 ∧ u315415 ≤ 3131) → ((-2147483648) ≤ u315417 ∧ u315417 ≤ 2147483647) → (0 ≤ u315420 ∧ u315420 ≤ 32) → qI σ315421 α315422 κ ρ → qFr [(86, 4), (86, 5), (86, 10), (86, 15), (86, 23), (86, 29), (86, 30), (86, 35), (86, 36), (86, 37), (86, 38), (86, 39), (86, 50), (86, 51)] [87, 88, 89, 90, 96, 109, 115, 116, 117, 118] σ α σ315421 α315422 → σ315421 86 6 = (σ 86 6) → qr_W (qe L xs vb) (d + 48) qx_e252 (fun r w' => ∃ σ' α', w' = qw σ' α' κ ρ ∧ qI σ' α' κ ρ ∧ qFr [(86, 4), (86, 5), (86, 10), (86, 15), (86, 23), (86, 29), (86, 30), (86, 35), (86, 36), (86, 37), (86, 38), (86, 39), (86, 50), (86, 51)] [87, 88, 89, 90, 96, 109, 115, 116, 117, 118] σ α σ' α' ∧ ∃ v : Int, r = some (.int (qz v)) ∧ ((-2147483648) ≤ v ∧ v ≤ 2147483647)) (114, ls, [], qw σ315421 α315422 κ ρ, 0, 0) := by
                    intro n
                    induction n with
                    | zero => intro ls u315415 u315417 u315420 σ315421 α315422 hm g315408 g315409 g315410 g315411 g315412 g315413 g315414 g315416 g315418 g315419 hf315426 hf315427 hf315428 hI315423 hF315424 hk315425; exact False.elim (by omega)
                    | succ n ih315430 =>
                      intro ls u315415 u315417 u315420 σ315421 α315422 hm g315408 g315409 g315410 g315411 g315412 g315413 g315414 g315416 g315418 g315419 hf315426 hf315427 hf315428 hI315423 hF315424 hk315425
                      refine qr_iload 116 rfl g315419 rfl ?_
                      refine qr_aload_n 117 rfl g315408 rfl ?_
                      refine qr_get 120 rfl rfl rfl (by decide) rfl ?_
                      refine qy_v (σ 86 6) ((hk315425).trans rfl) ?_
                      refine qr_icmp_ge 217 123 rfl rfl rfl (qrg hf315428 (by decide) (by decide)) (qrg hz86_6 (by decide) (by decide)) (fun h315488 => ?_) (fun h315488 => ?_)
                      · skip
                        refine qr_iinc _ 220 rfl g315418 (by decide) rfl rfl ?_
                        refine qr_goto 102 rfl rfl ?_
                        exact ih311575 _ u315415 u315417 (u311565 + 1) σ315421 α315422 (by omega) (qm_gk g315408 (by decide) (Or.inl (by decide))) (qm_gk g315409 (by decide) (Or.inl (by decide))) (qm_gk g315410 (by decide) (Or.inl (by decide))) (qm_gk g315411 (by decide) (Or.inl (by decide))) (qm_gk g315412 (by decide) (Or.inl (by decide))) (qm_gk g315413 (by decide) (Or.inl (by decide))) (qm_gk g315414 (by decide) (Or.inl (by decide))) (qm_gk g315416 (by decide) (Or.inr rfl)) (qm_ge _ _ _) hf315426 hf315427 (by omega) hI315423 hF315424 ((hk315425).trans rfl)
                      · skip
                        refine qr_iload 125 rfl g315418 rfl ?_
                        refine qr_iload 127 rfl g315419 rfl ?_
                        have hJ315528 : ∀ (ls : qm_L) (u315516 u315518 : Int) (σ315521 α315522 : Nat → Nat → Int), qm_get ls 0 = some (.ref 86) → qm_get ls 3 = some (.int (qz x2)) → qm_get ls 4 = some (.long (ql v8)) → qm_get ls 6 = some (.long (ql (σ 86 10))) → qm_get ls 8 = some (.long (ql (σ 86 51))) → qm_get ls 10 = some (.int (qz (σ 86 50))) → qm_get ls 11 = some (.int (qz u315516)) → qm_get ls 12 = some (.int (qz u315518)) → qm_get ls 13 = some (.int (qz u311565)) → qm_get ls 14 = some (.int (qz u315420)) → ((-2) ≤ u315516 ∧ u315516 ≤ 3131) → ((-2147483648) ≤ u315518 ∧ u315518 ≤ 2147483647) → qI σ315521 α315522 κ ρ → qFr [(86, 4), (86, 5), (86, 10), (86, 15), (86, 23), (86, 29), (86, 30), (86, 35), (86, 36), (86, 37), (86, 38), (86, 39), (86, 50), (86, 51)] [87, 88, 89, 90, 96, 109, 115, 116, 117, 118] σ α σ315521 α315522 → σ315521 86 6 = (σ 86 6) → qr_W (qe L xs vb) (d + 48) qx_e252 (fun r w' => ∃ σ' α', w' = qw σ' α' κ ρ ∧ qI σ' α' κ ρ ∧ qFr [(86, 4), (86, 5), (86, 10), (86, 15), (86, 23), (86, 29), (86, 30), (86, 35), (86, 36), (86, 37), (86, 38), (86, 39), (86, 50), (86, 51)] [87, 88, 89, 90, 96, 109, 115, 116, 117, 118] σ α σ' α' ∧ ∃ v : Int, r = some (.int (qz v)) ∧ ((-2147483648) ≤ v ∧ v ≤ 2147483647)) (211, ls, [], qw σ315521 α315522 κ ρ, 0, 0) := by
                          intro ls u315516 u315518 σ315521 α315522 g315509 g315510 g315511 g315512 g315513 g315514 g315515 g315517 g315519 g315520 hf315526 hf315527 hI315523 hF315524 hk315525
                          refine qr_iinc _ 214 rfl g315520 (by decide) rfl rfl ?_
                          refine qr_goto 114 rfl rfl ?_
                          exact ih315430 _ u315516 u315518 (u315420 + 1) σ315521 α315522 (by omega) (qm_gk g315509 (by decide) (Or.inl (by decide))) (qm_gk g315510 (by decide) (Or.inl (by decide))) (qm_gk g315511 (by decide) (Or.inl (by decide))) (qm_gk g315512 (by decide) (Or.inl (by decide))) (qm_gk g315513 (by decide) (Or.inl (by decide))) (qm_gk g315514 (by decide) (Or.inl (by decide))) (qm_gk g315515 (by decide) (Or.inl (by decide))) (qm_gk g315517 (by decide) (Or.inl (by decide))) (qm_gk g315519 (by decide) (Or.inr rfl)) (qm_ge _ _ _) hf315526 hf315527 (by omega) hI315523 hF315524 ((hk315525).trans rfl)
                        refine qr_icmp_eq 211 130 rfl rfl rfl (qrg hf311573 (by decide) (by decide)) (qrg hf315428 (by decide) (by decide)) (fun h315529 => ?_) (fun h315529 => ?_)
                        · skip
                          exact hJ315528 _ u315415 u315417 σ315421 α315422 g315408 g315409 g315410 g315411 g315412 g315413 g315414 g315416 g315418 g315419 hf315426 hf315427 hI315423 hF315424 ((hk315425).trans rfl)
                        · skip
                          refine qr_lload 132 rfl g315410 rfl ?_
                          refine qr_iload 134 rfl g315418 rfl ?_
                          refine qr_callN 137 rfl rfl rfl (sf_226 (d := d + 47) hI315423 hv8 (qrg hf311573 (by decide) (by decide))) ?_
                          rintro _ _ ⟨rfl, v315530, rfl, hv315530⟩
                          show qr_W (qe L xs vb) (d + 48) qx_e252 _ (137, _, [.int (qz v315530)], qw σ315421 α315422 κ ρ, 0, 0)
                          refine qr_if_eq 211 140 rfl rfl rfl (qrg hv315530 (by decide) (by decide)) (fun h315531 => ?_) (fun h315531 => ?_)
                          · skip
                            exact hJ315528 _ u315415 u315417 σ315421 α315422 g315408 g315409 g315410 g315411 g315412 g315413 g315414 g315416 g315418 g315419 hf315426 hf315427 hI315423 hF315424 ((hk315425).trans rfl)
                          · skip
                            refine qr_lload 142 rfl g315410 rfl ?_
                            refine qr_iload 144 rfl g315419 rfl ?_
                            refine qr_callN 147 rfl rfl rfl (sf_226 (d := d + 47) hI315423 hv8 (qrg hf315428 (by decide) (by decide))) ?_
                            rintro _ _ ⟨rfl, v315532, rfl, hv315532⟩
                            show qr_W (qe L xs vb) (d + 48) qx_e252 _ (147, _, [.int (qz v315532)], qw σ315421 α315422 κ ρ, 0, 0)
                            refine qr_if_ne 153 150 rfl rfl rfl (qrg hv315532 (by decide) (by decide)) (fun h315533 => ?_) (fun h315533 => ?_)
                            · skip
                              refine qr_aload_n 154 rfl g315408 rfl ?_
                              refine qr_bipush 156 rfl (by decide) rfl ?_
                              refine qr_iload 158 rfl g315418 rfl ?_
                              refine qr_imul 159 rfl rfl ?_
                              refine qr_iload 161 rfl g315419 rfl ?_
                              refine qr_iadd 162 rfl rfl ?_
                              refine qr_lload 164 rfl g315410 rfl ?_
                              refine qr_iload_n 165 rfl g315409 rfl ?_
                              refine qr_iconst 166 rfl rfl ?_
                              have hs315534 : 0 ≤ σ315421 86 6 ∧ σ315421 86 6 ≤ 32 := hI315423.1 86 6
                              have hs315535 : σ315421 86 6 = (σ 86 6) := (hk315425).trans rfl
                              refine qr_callN 169 rfl rfl rfl (sf_246_86 (d := d + 0) hI315423 (by omega) hv8 r2 (by decide) (by omega) (by omega)) ?_
                              rintro _ _ ⟨σ315536, α315537, rfl, hI315538, hG315539, rfl⟩
                              have hF315540 : qFr [(86, 4), (86, 5), (86, 10), (86, 15), (86, 23), (86, 29), (86, 30), (86, 35), (86, 36), (86, 37), (86, 38), (86, 39), (86, 50), (86, 51)] [87, 88, 89, 90, 96, 109, 115, 116, 117, 118] σ α σ315536 α315537 := qFr_t hF315424 hG315539 (by decide) (by decide)
                              show qr_W (qe L xs vb) (d + 48) qx_e252 _ (169, _, [], qw σ315536 α315537 κ ρ, 0, 0)
                              refine qr_aload_n 170 rfl g315408 rfl ?_
                              refine qr_lload 172 rfl g315411 rfl ?_
                              refine qr_put 175 rfl (by decide) rfl (Nat.le_of_ble_eq_true rfl) (Nat.le_of_ble_eq_true rfl) (Or.inl rfl) (qr_fitL rfl _) rfl ?_
                              refine qy_wS (qw_s σ315536 86 10 (σ 86 10)) rfl (fun σ315541 e315542 => ?_)
                              have hI315543 : qI σ315541 α315537 κ ρ := by rw [e315542]; exact qI_s hI315538 86 10 rfl (show (-9223372036854775808) ≤ (σ 86 10) ∧ (σ 86 10) ≤ 9223372036854775807 by omega)
                              have hF315544 : qFr [(86, 4), (86, 5), (86, 10), (86, 15), (86, 23), (86, 29), (86, 30), (86, 35), (86, 36), (86, 37), (86, 38), (86, 39), (86, 50), (86, 51)] [87, 88, 89, 90, 96, 109, 115, 116, 117, 118] σ α σ315541 α315537 := by rw [e315542]; exact qFr_s hF315540 86 10 _ (by decide)
                              refine qr_aload_n 176 rfl g315408 rfl ?_
                              refine qr_lconst 177 rfl rfl ?_
                              refine qy_vl 0 rfl ?_
                              refine qr_put 180 rfl (by decide) rfl (Nat.le_of_ble_eq_true rfl) (Nat.le_of_ble_eq_true rfl) (Or.inl rfl) (qr_fitL rfl _) rfl ?_
                              refine qy_wS (qw_s σ315541 86 29 0) rfl (fun σ315545 e315546 => ?_)
                              have hI315547 : qI σ315545 α315537 κ ρ := by rw [e315546]; exact qI_s hI315543 86 29 rfl (show (-9223372036854775808) ≤ 0 ∧ 0 ≤ 9223372036854775807 by omega)
                              have hF315548 : qFr [(86, 4), (86, 5), (86, 10), (86, 15), (86, 23), (86, 29), (86, 30), (86, 35), (86, 36), (86, 37), (86, 38), (86, 39), (86, 50), (86, 51)] [87, 88, 89, 90, 96, 109, 115, 116, 117, 118] σ α σ315545 α315537 := by rw [e315546]; exact qFr_s hF315544 86 29 _ (by decide)
                              refine qr_aload_n 181 rfl g315408 rfl ?_
                              refine qr_get 184 rfl rfl rfl (by decide) rfl ?_
                              have hs315549 : (-9223372036854775808) ≤ σ315545 86 51 ∧ σ315545 86 51 ≤ 9223372036854775807 := hI315547.1 86 51
                              refine qr_callN 187 rfl rfl rfl (sf_253 (d := d + 47) hI315547 hs315549) ?_
                              rintro _ _ ⟨rfl, v315550, rfl, hv315550⟩
                              show qr_W (qe L xs vb) (d + 48) qx_e252 _ (187, _, [.int (qz v315550)], qw σ315545 α315537 κ ρ, 0, 0)
                              refine qr_iload 189 rfl g315416 rfl ?_
                              refine qr_icmp_ge 211 192 rfl rfl rfl hv315550 hf315427 (fun h315551 => ?_) (fun h315551 => ?_)
                              · skip
                                exact hJ315528 _ u315415 u315417 σ315545 α315537 g315408 g315409 g315410 g315411 g315412 g315413 g315414 g315416 g315418 g315419 hf315426 hf315427 hI315547 hF315548 ((congrFun (congrFun e315546 86) 6).trans ((congrFun (congrFun e315542 86) 6).trans ((hG315539.1 86 6 (by decide)).trans ((hk315425).trans rfl))))
                              · skip
                                refine qr_bipush 194 rfl (by decide) rfl ?_
                                refine qr_iload 196 rfl g315418 rfl ?_
                                refine qr_imul 197 rfl rfl ?_
                                refine qr_iload 199 rfl g315419 rfl ?_
                                refine qr_iadd 200 rfl rfl ?_
                                refine qr_istore _ 202 rfl (by decide) rfl rfl ?_
                                refine qr_aload_n 203 rfl (qm_gk g315408 (by decide) (Or.inl (by decide))) rfl ?_
                                refine qr_get 206 rfl rfl rfl (by decide) rfl ?_
                                refine qr_callN 209 rfl rfl rfl (sf_253 (d := d + 47) hI315547 hs315549) ?_
                                rintro _ _ ⟨rfl, v315552, rfl, hv315552⟩
                                show qr_W (qe L xs vb) (d + 48) qx_e252 _ (209, _, [.int (qz v315552)], qw σ315545 α315537 κ ρ, 0, 0)
                                refine qr_istore _ 211 rfl (by decide) rfl rfl ?_
                                exact hJ315528 _ ((100 * u311565) + u315420) v315552 σ315545 α315537 (qm_gk (qm_gk g315408 (by decide) (Or.inl (by decide))) (by decide) (Or.inl (by decide))) (qm_gk (qm_gk g315409 (by decide) (Or.inl (by decide))) (by decide) (Or.inl (by decide))) (qm_gk (qm_gk g315410 (by decide) (Or.inl (by decide))) (by decide) (Or.inl (by decide))) (qm_gk (qm_gk g315411 (by decide) (Or.inl (by decide))) (by decide) (Or.inl (by decide))) (qm_gk (qm_gk g315412 (by decide) (Or.inl (by decide))) (by decide) (Or.inl (by decide))) (qm_gk (qm_gk g315413 (by decide) (Or.inr rfl)) (by decide) (Or.inl (by decide))) (qm_gk (qm_ge _ _ _) (by decide) (Or.inr rfl)) (qm_ge _ _ _) (qm_gk (qm_gk g315418 (by decide) (Or.inl (by decide))) (by decide) (Or.inl (by decide))) (qm_gk (qm_gk g315419 (by decide) (Or.inl (by decide))) (by decide) (Or.inl (by decide))) (by omega) hv315552 hI315547 hF315548 ((congrFun (congrFun e315546 86) 6).trans ((congrFun (congrFun e315542 86) 6).trans ((hG315539.1 86 6 (by decide)).trans ((hk315425).trans rfl))))
                            · skip
                              refine qr_goto 211 rfl rfl ?_
                              exact hJ315528 _ u315415 u315417 σ315421 α315422 g315408 g315409 g315410 g315411 g315412 g315413 g315414 g315416 g315418 g315419 hf315426 hf315427 hI315423 hF315424 ((hk315425).trans rfl)
                  exact hL315429 ((32 - 0 + 1 : Int)).toNat _ u311561 u311563 0 σ311566 α311567 (by omega) (qm_gk g311554 (by decide) (Or.inl (by decide))) (qm_gk g311555 (by decide) (Or.inl (by decide))) (qm_gk g311556 (by decide) (Or.inl (by decide))) (qm_gk g311557 (by decide) (Or.inl (by decide))) (qm_gk g311558 (by decide) (Or.inl (by decide))) (qm_gk g311559 (by decide) (Or.inl (by decide))) (qm_gk g311560 (by decide) (Or.inl (by decide))) (qm_gk g311562 (by decide) (Or.inl (by decide))) (qm_gk g311564 (by decide) (Or.inr rfl)) (qm_ge _ _ _) hf311571 hf311572 (by decide) hI311568 hF311569 ((hk311570).trans rfl)
            exact hL311574 ((32 - 0 + 1 : Int)).toNat _ (-2) 99 0 σ α252444 (by omega) (qm_gk (qm_gk (qm_gk g252435 (by decide) (Or.inl (by decide))) (by decide) (Or.inl (by decide))) (by decide) (Or.inl (by decide))) (qm_gk (qm_gk (qm_gk g252436 (by decide) (Or.inl (by decide))) (by decide) (Or.inl (by decide))) (by decide) (Or.inl (by decide))) (qm_gk (qm_gk (qm_gk g252437 (by decide) (Or.inl (by decide))) (by decide) (Or.inl (by decide))) (by decide) (Or.inl (by decide))) (qm_gk (qm_gk (qm_gk g252438 (by decide) (Or.inl (by decide))) (by decide) (Or.inl (by decide))) (by decide) (Or.inl (by decide))) (qm_gk (qm_gk (qm_gk g252439 (by decide) (Or.inl (by decide))) (by decide) (Or.inl (by decide))) (by decide) (Or.inl (by decide))) (qm_gk (qm_gk (qm_gk g252440 (by decide) (Or.inr rfl)) (by decide) (Or.inl (by decide))) (by decide) (Or.inl (by decide))) (qm_gk (qm_gk (qm_ge _ _ _) (by decide) (Or.inr rfl)) (by decide) (Or.inl (by decide))) (qm_gk (qm_ge _ _ _) (by decide) (Or.inr rfl)) (qm_ge _ _ _) (by decide) (by decide) (by decide) hI252445 hF252446 (rfl)
          · skip
            refine qr_aload_n 58 rfl g252435 rfl ?_
            refine qr_get 61 rfl rfl rfl (by decide) rfl ?_
            refine qr_iload 63 rfl g252441 rfl ?_
            refine qr_aload_n 64 rfl g252435 rfl ?_
            refine qr_get 67 rfl rfl rfl (by decide) rfl ?_
            refine qr_iload 69 rfl g252441 rfl ?_
            refine qr_iaload 70 rfl rfl (by omega) (by decide) rfl ?_
            refine qr_topI (fun v315553 hv315553 => ?_)
            have hs315554 : 0 ≤ v315553 ∧ v315553 ≤ 31 := by rw [hv315553]; exact hI252445.2.1 115 _ (show _ < 31 by omega)
            refine qr_iastore 71 rfl (by decide) rfl (by omega) (by decide) rfl ?_
            refine qy_wA (qw_r α252444 117 (qzu (α252444 117) (u252442 : Int).toNat v315553)) rfl (fun α315555 e315556 => ?_)
            have hI315557 : qI σ α315555 κ ρ := by rw [e315556]; exact qI_r hI252445 117 _ rfl (show 0 ≤ v315553 ∧ v315553 ≤ 31 by omega)
            have hF315558 : qFr [(86, 4), (86, 5), (86, 10), (86, 15), (86, 23), (86, 29), (86, 30), (86, 35), (86, 36), (86, 37), (86, 38), (86, 39), (86, 50), (86, 51)] [87, 88, 89, 90, 96, 109, 115, 116, 117, 118] σ α σ α315555 := by rw [e315556]; exact qFr_r hF252446 117 _ (by decide)
            refine qr_aload_n 72 rfl g252435 rfl ?_
            refine qr_get 75 rfl rfl rfl (by decide) rfl ?_
            refine qr_iload 77 rfl g252441 rfl ?_
            refine qr_aload_n 78 rfl g252435 rfl ?_
            refine qr_get 81 rfl rfl rfl (by decide) rfl ?_
            refine qr_iload 83 rfl g252441 rfl ?_
            refine qr_iaload 84 rfl rfl (by omega) (by decide) rfl ?_
            refine qr_topI (fun v315559 hv315559 => ?_)
            have hs315560 : 0 ≤ v315559 ∧ v315559 ≤ 31 := by rw [hv315559]; exact hI315557.2.1 116 _ (show _ < 31 by omega)
            refine qr_iastore 85 rfl (by decide) rfl (by omega) (by decide) rfl ?_
            refine qy_wA (qw_r α315555 118 (qzu (α315555 118) (u252442 : Int).toNat v315559)) rfl (fun α315561 e315562 => ?_)
            have hI315563 : qI σ α315561 κ ρ := by rw [e315562]; exact qI_r hI315557 118 _ rfl (show 0 ≤ v315559 ∧ v315559 ≤ 31 by omega)
            have hF315564 : qFr [(86, 4), (86, 5), (86, 10), (86, 15), (86, 23), (86, 29), (86, 30), (86, 35), (86, 36), (86, 37), (86, 38), (86, 39), (86, 50), (86, 51)] [87, 88, 89, 90, 96, 109, 115, 116, 117, 118] σ α σ α315561 := by rw [e315562]; exact qFr_r hF315558 118 _ (by decide)
            refine qr_iinc _ 88 rfl g252441 (by decide) rfl rfl ?_
            refine qr_goto 50 rfl rfl ?_
            exact ih252449 _ (u252442 + 1) α315561 (by omega) (qm_gk g252435 (by decide) (Or.inl (by decide))) (qm_gk g252436 (by decide) (Or.inl (by decide))) (qm_gk g252437 (by decide) (Or.inl (by decide))) (qm_gk g252438 (by decide) (Or.inl (by decide))) (qm_gk g252439 (by decide) (Or.inl (by decide))) (qm_gk g252440 (by decide) (Or.inr rfl)) (qm_ge _ _ _) (by omega) hI315563 hF315564
      exact hL252448 ((31 - 0 + 1 : Int)).toNat _ 0 α (by omega) rfl rfl rfl rfl rfl rfl rfl (by decide) hI hF0
    · skip
      refine qr_iconst 16 rfl rfl ?_
      refine qr_retI rfl rfl (by decide) (by decide) ?_
      exact ⟨_, _, rfl, hI, hF0, (-1), rfl, (by decide)⟩

set_option maxHeartbeats 4000000 in
set_option maxRecDepth 20000 in
/-- OneRoofModel.wed -/
theorem sf_254_86 {L : Nat} {xs : Nat → Int} {vb : Bool} {d : Nat} {σ α : Nat → Nat → Int} {κ : Nat → Option Nat} {ρ : Nat} {x1 : Int} {x2 : Int} {x3 : Int} (hI : qI σ α κ ρ) (r1 : (-2147483648) ≤ x1 ∧ x1 ≤ 2147483647) (r2 : (-2147483648) ≤ x2 ∧ x2 ≤ 2147483647) (r3 : (-2147483648) ≤ x3 ∧ x3 ≤ 2147483647) (p0 : σ 86 11 ≤ 60) : qm_T (qe L xs vb) (d + 6) 254 [.ref 86, .int (qz x1), .int (qz x2), .int (qz x3)] (qw σ α κ ρ) (fun r w' => ∃ σ' α', w' = qw σ' α' κ ρ ∧ qI σ' α' κ ρ ∧ qFr [(86, 11), (86, 15), (86, 23)] [94, 95, 96, 119] σ α σ' α' ∧ σ' 86 11 ≤ 60 ∧ ∃ v : Int, r = some (.int (qz v)) ∧ ((-2147483648) ≤ v ∧ v ≤ 2147483647)) := by
  refine qr_start (d := d + 5) qv_e254 (Nat.le_of_ble_eq_true rfl) ?_
  show qr_W (qe L xs vb) (d + 5) qx_e254 _ (0, [(0, .ref 86), (1, .int (qz x1)), (2, .int (qz x2)), (3, .int (qz x3))], [], _, 0, 0)
  have hF0 := qFr_rf [(86, 11), (86, 15), (86, 23)] [94, 95, 96, 119] σ α
  have hz86_11 : 0 ≤ σ 86 11 ∧ σ 86 11 ≤ 61 := hI.1 86 11
  have hz86_6 : 0 ≤ σ 86 6 ∧ σ 86 6 ≤ 32 := hI.1 86 6
  refine qr_aload_n 1 rfl rfl rfl ?_
  refine qr_iload_n 2 rfl rfl rfl ?_
  refine qr_callN 5 rfl rfl rfl (sf_191_86 (d := d + 2) hI r1) ?_
  have hs3 : 0 ≤ σ 86 6 ∧ σ 86 6 ≤ 32 := hI.1 86 6
  rintro _ _ ⟨rfl, v1, rfl, hv1, hp2⟩
  show qr_W (qe L xs vb) (d + 5) qx_e254 _ (5, _, [.int (qz v1)], qw σ α κ ρ, 0, 0)
  refine qr_if_eq 40 8 rfl rfl rfl (qrg hv1 (by decide) (by decide)) (fun h4 => ?_) (fun h4 => ?_)
  · skip
    refine qr_iconst 41 rfl rfl ?_
    refine qr_retI rfl rfl (by decide) (by decide) ?_
    exact ⟨_, _, rfl, hI, hF0, (by have hw : σ 86 11 = (σ 86 11) := rfl; omega), (-1), rfl, (by decide)⟩
  · skip
    refine qr_aload_n 9 rfl rfl rfl ?_
    refine qr_iload_n 10 rfl rfl rfl ?_
    refine qr_bipush 12 rfl (by decide) rfl ?_
    refine qr_idiv 13 rfl (by omega) (by decide) rfl ?_
    refine qr_iload_n 14 rfl rfl rfl ?_
    refine qr_bipush 16 rfl (by decide) rfl ?_
    refine qr_irem 17 rfl (by omega) (by decide) rfl ?_
    refine qr_callN 20 rfl rfl rfl (sf_185_86 (d := d + 4) hI (by omega) (by omega)) ?_
    rintro _ _ ⟨rfl, v5, rfl, hv5⟩
    show qr_W (qe L xs vb) (d + 5) qx_e254 _ (20, _, [.int (qz v5)], qw σ α κ ρ, 0, 0)
    refine qr_if_ne 40 23 rfl rfl rfl (qrg hv5 (by decide) (by decide)) (fun h6 => ?_) (fun h6 => ?_)
    · skip
      refine qr_iconst 41 rfl rfl ?_
      refine qr_retI rfl rfl (by decide) (by decide) ?_
      exact ⟨_, _, rfl, hI, hF0, (by have hw : σ 86 11 = (σ 86 11) := rfl; omega), (-1), rfl, (by decide)⟩
    · skip
      refine qr_iload_n 24 rfl rfl rfl ?_
      refine qr_callN 27 rfl rfl rfl (sf_192 (d := d + 3) hI r2) ?_
      rintro _ _ ⟨rfl, v7, rfl, hv7, hp8⟩
      show qr_W (qe L xs vb) (d + 5) qx_e254 _ (27, _, [.int (qz v7)], qw σ α κ ρ, 0, 0)
      refine qr_if_eq 40 30 rfl rfl rfl (qrg hv7 (by decide) (by decide)) (fun h9 => ?_) (fun h9 => ?_)
      · skip
        refine qr_iconst 41 rfl rfl ?_
        refine qr_retI rfl rfl (by decide) (by decide) ?_
        exact ⟨_, _, rfl, hI, hF0, (by have hw : σ 86 11 = (σ 86 11) := rfl; omega), (-1), rfl, (by decide)⟩
      · skip
        refine qr_iload_n 31 rfl rfl rfl ?_
        refine qr_i2l 32 rfl r3 rfl ?_
        refine qr_lconst 33 rfl rfl ?_
        refine qy_vl 0 rfl ?_
        refine qr_lconst 34 rfl rfl ?_
        refine qy_vl 1 rfl ?_
        refine qr_callN 37 rfl rfl rfl (sf_176 (d := d + 4) hI (qrg r3 (by decide) (by decide)) (by decide) (by decide)) ?_
        rintro _ _ ⟨rfl, v10, rfl, hv10, hp11⟩
        show qr_W (qe L xs vb) (d + 5) qx_e254 _ (37, _, [.int (qz v10)], qw σ α κ ρ, 0, 0)
        refine qr_if_ne 42 40 rfl rfl rfl (qrg hv10 (by decide) (by decide)) (fun h12 => ?_) (fun h12 => ?_)
        · skip
          refine qr_iconst 43 rfl rfl ?_
          refine qr_istore _ 45 rfl (by decide) rfl rfl ?_
          refine qr_iconst 46 rfl rfl ?_
          refine qr_istore _ 48 rfl (by decide) rfl rfl ?_
          have hL324227 : ∀ (n : Nat) (ls : qm_L) (u324216 u324218 : Int) (σ324219 α324220 : Nat → Nat → Int), 32 - u324218 < (n : Int) → qm_get ls 0 = some (.ref 86) → qm_get ls 1 = some (.int (qz x1)) → qm_get ls 2 = some (.int (qz x2)) → qm_get ls 3 = some (.int (qz x3)) → qm_get ls 4 = some (.int (qz u324216)) → qm_get ls 5 = some (.int (qz u324218)) → ((-2147483648) ≤ u324216 ∧ u324216 ≤ 2147483647) → (0 ≤ u324218 ∧ u324218 ≤ 32) → qI σ324219 α324220 κ ρ → qFr [(86, 11), (86, 15), (86, 23)] [94, 95, 96, 119] σ α σ324219 α324220 → σ324219 86 6 = (σ 86 6) → σ324219 86 11 = (σ 86 11) → qr_W (qe L xs vb) (d + 5) qx_e254 (fun r w' => ∃ σ' α', w' = qw σ' α' κ ρ ∧ qI σ' α' κ ρ ∧ qFr [(86, 11), (86, 15), (86, 23)] [94, 95, 96, 119] σ α σ' α' ∧ σ' 86 11 ≤ 60 ∧ ∃ v : Int, r = some (.int (qz v)) ∧ ((-2147483648) ≤ v ∧ v ≤ 2147483647)) (48, ls, [], qw σ324219 α324220 κ ρ, 0, 0) := by
            intro n
            induction n with
            | zero => intro ls u324216 u324218 σ324219 α324220 hm g324211 g324212 g324213 g324214 g324215 g324217 hf324225 hf324226 hI324221 hF324222 hk324223 hk324224; exact False.elim (by omega)
            | succ n ih324228 =>
              intro ls u324216 u324218 σ324219 α324220 hm g324211 g324212 g324213 g324214 g324215 g324217 hf324225 hf324226 hI324221 hF324222 hk324223 hk324224
              refine qr_iload 50 rfl g324217 rfl ?_
              refine qr_aload_n 51 rfl g324211 rfl ?_
              refine qr_get 54 rfl rfl rfl (by decide) rfl ?_
              refine qy_v (σ 86 6) ((hk324223).trans rfl) ?_
              refine qr_icmp_ge 148 57 rfl rfl rfl (qrg hf324226 (by decide) (by decide)) (qrg hz86_6 (by decide) (by decide)) (fun h325549 => ?_) (fun h325549 => ?_)
              · skip
                refine qr_iload_n 149 rfl g324214 rfl ?_
                refine qr_iconst 150 rfl rfl ?_
                refine qr_icmp_ne 156 153 rfl rfl rfl r3 (by decide) (fun h325550 => ?_) (fun h325550 => ?_)
                · skip
                  refine qr_aload_n 157 rfl g324211 rfl ?_
                  refine qr_get 160 rfl rfl rfl (by decide) rfl ?_
                  refine qr_aload_n 161 rfl g324211 rfl ?_
                  refine qr_get 164 rfl rfl rfl (by decide) rfl ?_
                  refine qy_v (σ 86 11) ((hk324224).trans rfl) ?_
                  refine qr_iload_n 165 rfl g324212 rfl ?_
                  refine qr_bipush 167 rfl (by decide) rfl ?_
                  refine qr_idiv 168 rfl (by omega) (by decide) rfl ?_
                  refine qr_iastore 169 rfl (by decide) rfl (by omega) (by decide) rfl ?_
                  refine qy_wA (qw_r α324220 94 (qzu (α324220 94) ((σ 86 11) : Int).toNat (x1 / 100))) rfl (fun α325551 e325552 => ?_)
                  have hI325553 : qI σ324219 α325551 κ ρ := by rw [e325552]; exact qI_r94 hI324221 _ (show 0 ≤ (x1 / 100) ∧ (x1 / 100) ≤ 31 by omega) (by omega)
                  have hF325554 : qFr [(86, 11), (86, 15), (86, 23)] [94, 95, 96, 119] σ α σ324219 α325551 := by rw [e325552]; exact qFr_r hF324222 94 _ (by decide)
                  refine qr_aload_n 170 rfl g324211 rfl ?_
                  refine qr_get 173 rfl rfl rfl (by decide) rfl ?_
                  refine qr_aload_n 174 rfl g324211 rfl ?_
                  refine qr_get 177 rfl rfl rfl (by decide) rfl ?_
                  refine qy_v (σ 86 11) ((hk324224).trans rfl) ?_
                  refine qr_iload_n 178 rfl g324212 rfl ?_
                  refine qr_bipush 180 rfl (by decide) rfl ?_
                  refine qr_irem 181 rfl (by omega) (by decide) rfl ?_
                  refine qr_iastore 182 rfl (by decide) rfl (by omega) (by decide) rfl ?_
                  refine qy_wA (qw_r α325551 95 (qzu (α325551 95) ((σ 86 11) : Int).toNat (x1 % 100))) rfl (fun α325555 e325556 => ?_)
                  have hI325557 : qI σ324219 α325555 κ ρ := by rw [e325556]; exact qI_r95 hI325553 _ (show 0 ≤ (x1 % 100) ∧ (x1 % 100) ≤ 31 by omega) (by omega)
                  have hF325558 : qFr [(86, 11), (86, 15), (86, 23)] [94, 95, 96, 119] σ α σ324219 α325555 := by rw [e325556]; exact qFr_r hF325554 95 _ (by decide)
                  refine qr_aload_n 183 rfl g324211 rfl ?_
                  refine qr_dup 184 rfl rfl rfl ?_
                  refine qr_get 187 rfl rfl rfl (by decide) rfl ?_
                  refine qy_v (σ 86 11) ((hk324224).trans rfl) ?_
                  refine qr_iconst 188 rfl rfl ?_
                  refine qr_iadd 189 rfl rfl ?_
                  refine qr_put 192 rfl (by decide) rfl (Nat.le_of_ble_eq_true rfl) (Nat.le_of_ble_eq_true rfl) (Or.inl rfl) (qr_fitI rfl _) rfl ?_
                  refine qy_wS (qw_s σ324219 86 11 ((σ 86 11) + 1)) rfl (fun σ325559 e325560 => ?_)
                  have hF325562 : qFr [(86, 11), (86, 15), (86, 23)] [94, 95, 96, 119] σ α σ325559 α325555 := by rw [e325560]; exact qFr_s hF325558 86 11 _ (by decide)
                  refine qr_aload_n 193 rfl g324211 rfl ?_
                  refine qr_iconst 194 rfl rfl ?_
                  refine qr_put 197 rfl (by decide) rfl (Nat.le_of_ble_eq_true rfl) (Nat.le_of_ble_eq_true rfl) (Or.inl rfl) (qr_fitZ rfl (Or.inl rfl)) rfl ?_
                  refine qy_wS (qw_s σ325559 86 15 0) rfl (fun σ325563 e325564 => ?_)
                  have hI325565 : qI σ325563 α325555 κ ρ := by rw [e325564, e325560]; exact qI_s1115 hI325557 (by omega) (qE_new hI325557 (p := (x1 / 100)) (q := (x1 % 100)) (k := ((σ 86 11) : Int).toNat) (by have hw : σ324219 86 11 = (σ 86 11) := (hk324224).trans rfl; omega) (by rw [e325556, qw_r_ne (by decide), e325552, qw_r_eq]; unfold qzu; rw [if_pos rfl]) (by rw [e325556, qw_r_eq]; unfold qzu; rw [if_pos rfl]) (by have hw : σ324219 86 6 = (σ 86 6) := (hk324223).trans rfl; omega) (by have hw : σ324219 86 6 = (σ 86 6) := (hk324223).trans rfl; omega))
                  have hF325566 : qFr [(86, 11), (86, 15), (86, 23)] [94, 95, 96, 119] σ α σ325563 α325555 := by rw [e325564]; exact qFr_s hF325562 86 15 _ (by decide)
                  refine qr_iconst 198 rfl rfl ?_
                  refine qr_istore _ 200 rfl (by decide) rfl rfl ?_
                  refine qr_iconst 201 rfl rfl ?_
                  refine qr_istore _ 203 rfl (by decide) rfl rfl ?_
                  have hL353353 : ∀ (n : Nat) (ls : qm_L) (u353342 u353344 : Int) (σ353345 α353346 : Nat → Nat → Int), 32 - u353344 < (n : Int) → qm_get ls 0 = some (.ref 86) → qm_get ls 2 = some (.int (qz x2)) → qm_get ls 5 = some (.int (qz u353342)) → qm_get ls 6 = some (.int (qz u353344)) → ((-2147483648) ≤ u353342 ∧ u353342 ≤ 2147483647) → (0 ≤ u353344 ∧ u353344 ≤ 32) → qI σ353345 α353346 κ ρ → qFr [(86, 11), (86, 15), (86, 23)] [94, 95, 96, 119] σ α σ353345 α353346 → σ353345 86 6 = (σ 86 6) → σ353345 86 11 = ((σ 86 11) + 1) → qr_W (qe L xs vb) (d + 5) qx_e254 (fun r w' => ∃ σ' α', w' = qw σ' α' κ ρ ∧ qI σ' α' κ ρ ∧ qFr [(86, 11), (86, 15), (86, 23)] [94, 95, 96, 119] σ α σ' α' ∧ σ' 86 11 ≤ 60 ∧ ∃ v : Int, r = some (.int (qz v)) ∧ ((-2147483648) ≤ v ∧ v ≤ 2147483647)) (203, ls, [], qw σ353345 α353346 κ ρ, 0, 0) := by
                    intro n
                    induction n with
                    | zero => intro ls u353342 u353344 σ353345 α353346 hm g353339 g353340 g353341 g353343 hf353351 hf353352 hI353347 hF353348 hk353349 hk353350; exact False.elim (by omega)
                    | succ n ih353354 =>
                      intro ls u353342 u353344 σ353345 α353346 hm g353339 g353340 g353341 g353343 hf353351 hf353352 hI353347 hF353348 hk353349 hk353350
                      refine qr_iload 205 rfl g353343 rfl ?_
                      refine qr_aload_n 206 rfl g353339 rfl ?_
                      refine qr_get 209 rfl rfl rfl (by decide) rfl ?_
                      refine qy_v (σ 86 6) ((hk353349).trans rfl) ?_
                      refine qr_icmp_ge 292 212 rfl rfl rfl (qrg hf353352 (by decide) (by decide)) (qrg hz86_6 (by decide) (by decide)) (fun h354345 => ?_) (fun h354345 => ?_)
                      · skip
                        refine qr_aload_n 293 rfl g353339 rfl ?_
                        refine qr_dup 294 rfl rfl rfl ?_
                        refine qr_get 297 rfl rfl rfl (by decide) rfl ?_
                        refine qy_v ((σ 86 11) + 1) ((hk353350).trans rfl) ?_
                        refine qr_iconst 298 rfl rfl ?_
                        refine qr_isub 299 rfl rfl ?_
                        refine qr_put 302 rfl (by decide) rfl (Nat.le_of_ble_eq_true rfl) (Nat.le_of_ble_eq_true rfl) (Or.inl rfl) (qr_fitI rfl _) rfl ?_
                        refine qy_wS (qw_s σ353345 86 11 (((σ 86 11) + 1) - 1)) rfl (fun σ354346 e354347 => ?_)
                        have hF354349 : qFr [(86, 11), (86, 15), (86, 23)] [94, 95, 96, 119] σ α σ354346 α353346 := by rw [e354347]; exact qFr_s hF353348 86 11 _ (by decide)
                        refine qr_aload_n 303 rfl g353339 rfl ?_
                        refine qr_iconst 304 rfl rfl ?_
                        refine qr_put 307 rfl (by decide) rfl (Nat.le_of_ble_eq_true rfl) (Nat.le_of_ble_eq_true rfl) (Or.inl rfl) (qr_fitZ rfl (Or.inl rfl)) rfl ?_
                        refine qy_wS (qw_s σ354346 86 15 0) rfl (fun σ354350 e354351 => ?_)
                        have hI354352 : qI σ354350 α353346 κ ρ := by rw [e354351, e354347]; exact qI_s1115 hI353347 (by omega) (qE_less hI353347 (by have hw : σ353345 86 11 = ((σ 86 11) + 1) := (hk353350).trans rfl; omega))
                        have hF354353 : qFr [(86, 11), (86, 15), (86, 23)] [94, 95, 96, 119] σ α σ354350 α353346 := by rw [e354351]; exact qFr_s hF354349 86 15 _ (by decide)
                        refine qr_iload 309 rfl g353341 rfl ?_
                        refine qr_retI rfl rfl (by decide) (by decide) ?_
                        exact ⟨_, _, rfl, hI354352, hF354353, (by have hw : σ354350 86 11 = (((σ 86 11) + 1) - 1) := (congrFun (congrFun e354351 86) 11).trans ((congrFun (congrFun e354347 86) 11).trans rfl); omega), u353342, rfl, hf353351⟩
                      · skip
                        refine qr_iconst 213 rfl rfl ?_
                        refine qr_istore _ 215 rfl (by decide) rfl rfl ?_
                        have hL355293 : ∀ (n : Nat) (ls : qm_L) (u355281 u355284 : Int) (σ355285 α355286 : Nat → Nat → Int), 31 - u355284 < (n : Int) → qm_get ls 0 = some (.ref 86) → qm_get ls 2 = some (.int (qz x2)) → qm_get ls 5 = some (.int (qz u355281)) → qm_get ls 6 = some (.int (qz u353344)) → qm_get ls 7 = some (.int (qz u355284)) → ((-2147483648) ≤ u355281 ∧ u355281 ≤ 2147483647) → (0 ≤ u355284 ∧ u355284 ≤ 31) → qI σ355285 α355286 κ ρ → qFr [(86, 11), (86, 15), (86, 23)] [94, 95, 96, 119] σ α σ355285 α355286 → σ355285 86 6 = (σ 86 6) → σ355285 86 11 = ((σ 86 11) + 1) → qr_W (qe L xs vb) (d + 5) qx_e254 (fun r w' => ∃ σ' α', w' = qw σ' α' κ ρ ∧ qI σ' α' κ ρ ∧ qFr [(86, 11), (86, 15), (86, 23)] [94, 95, 96, 119] σ α σ' α' ∧ σ' 86 11 ≤ 60 ∧ ∃ v : Int, r = some (.int (qz v)) ∧ ((-2147483648) ≤ v ∧ v ≤ 2147483647)) (215, ls, [], qw σ355285 α355286 κ ρ, 0, 0) := by
                          intro n
                          induction n with
                          | zero => intro ls u355281 u355284 σ355285 α355286 hm g355278 g355279 g355280 g355282 g355283 hf355291 hf355292 hI355287 hF355288 hk355289 hk355290; exact False.elim (by omega)
                          | succ n ih355294 =>
                            intro ls u355281 u355284 σ355285 α355286 hm g355278 g355279 g355280 g355282 g355283 hf355291 hf355292 hI355287 hF355288 hk355289 hk355290
                            refine qr_iload 217 rfl g355283 rfl ?_
                            refine qr_iload 219 rfl g355282 rfl ?_
                            refine qr_icmp_ge 286 222 rfl rfl rfl (qrg hf355292 (by decide) (by decide)) (qrg hf353352 (by decide) (by decide)) (fun h355325 => ?_) (fun h355325 => ?_)
                            · skip
                              refine qr_iinc _ 289 rfl g355282 (by decide) rfl rfl ?_
                              refine qr_goto 203 rfl rfl ?_
                              exact ih353354 _ u355281 (u353344 + 1) σ355285 α355286 (by omega) (qm_gk g355278 (by decide) (Or.inl (by decide))) (qm_gk g355279 (by decide) (Or.inl (by decide))) (qm_gk g355280 (by decide) (Or.inr rfl)) (qm_ge _ _ _) hf355291 (by omega) hI355287 hF355288 ((hk355289).trans rfl) ((hk355290).trans rfl)
                            · skip
                              refine qr_iload 224 rfl g355280 rfl ?_
                              refine qr_aload_n 225 rfl g355278 rfl ?_
                              refine qr_get 228 rfl rfl rfl (by decide) rfl ?_
                              refine qr_bipush 230 rfl (by decide) rfl ?_
                              refine qr_iload 232 rfl g355282 rfl ?_
                              refine qr_imul 233 rfl rfl ?_
                              refine qr_iload 235 rfl g355283 rfl ?_
                              refine qr_iadd 236 rfl rfl ?_
                              refine qr_baload 237 rfl (by decide) rfl (by omega) (by decide) rfl ?_
                              refine qr_topI (fun v355326 hv355326 => ?_)
                              have hs355327 : 0 ≤ v355326 ∧ v355326 ≤ 1 := by rw [hv355326]; exact hI355287.2.1 119 _ (show _ < 1024 by omega)
                              have hJ355348 : ∀ (ls : qm_L) (u355340 : Int) (σ355341 α355342 : Nat → Nat → Int), qm_get ls 0 = some (.ref 86) → qm_get ls 2 = some (.int (qz x2)) → qm_get ls 6 = some (.int (qz u353344)) → qm_get ls 7 = some (.int (qz u355284)) → (0 ≤ u355340 ∧ u355340 ≤ 1) → qI σ355341 α355342 κ ρ → qFr [(86, 11), (86, 15), (86, 23)] [94, 95, 96, 119] σ α σ355341 α355342 → σ355341 86 6 = (σ 86 6) → σ355341 86 11 = ((σ 86 11) + 1) → qr_W (qe L xs vb) (d + 5) qx_e254 (fun r w' => ∃ σ' α', w' = qw σ' α' κ ρ ∧ qI σ' α' κ ρ ∧ qFr [(86, 11), (86, 15), (86, 23)] [94, 95, 96, 119] σ α σ' α' ∧ σ' 86 11 ≤ 60 ∧ ∃ v : Int, r = some (.int (qz v)) ∧ ((-2147483648) ≤ v ∧ v ≤ 2147483647)) (277, ls, [.int (qz u355340), .int (qz u355281)], qw σ355341 α355342 κ ρ, 0, 0) := by
                                intro ls u355340 σ355341 α355342 g355336 g355337 g355338 g355339 hf355347 hI355343 hF355344 hk355345 hk355346
                                refine qr_iadd 278 rfl rfl ?_
                                refine qy_can (fun v355349 hv355349 => ?_)
                                refine qr_istore _ 280 rfl (by decide) rfl rfl ?_
                                refine qr_iinc _ 283 rfl (qm_gk g355339 (by decide) (Or.inl (by decide))) (by decide) rfl rfl ?_
                                refine qr_goto 215 rfl rfl ?_
                                exact ih355294 _ v355349 (u355284 + 1) σ355341 α355342 (by omega) (qm_gk (qm_gk g355336 (by decide) (Or.inl (by decide))) (by decide) (Or.inl (by decide))) (qm_gk (qm_gk g355337 (by decide) (Or.inl (by decide))) (by decide) (Or.inl (by decide))) (qm_gk (qm_ge _ _ _) (by decide) (Or.inl (by decide))) (qm_gk (qm_gk g355338 (by decide) (Or.inl (by decide))) (by decide) (Or.inr rfl)) (qm_ge _ _ _) hv355349 (by omega) hI355343 hF355344 ((hk355345).trans rfl) ((hk355346).trans rfl)
                              refine qr_if_ne 276 240 rfl rfl rfl (qrg hs355327 (by decide) (by decide)) (fun h355350 => ?_) (fun h355350 => ?_)
                              · skip
                                refine qr_iconst 277 rfl rfl ?_
                                exact hJ355348 _ 0 σ355285 α355286 g355278 g355279 g355282 g355283 (by decide) hI355287 hF355288 ((hk355289).trans rfl) ((hk355290).trans rfl)
                              · skip
                                refine qr_aload_n 241 rfl g355278 rfl ?_
                                refine qr_iload 243 rfl g355282 rfl ?_
                                refine qr_callN 246 rfl rfl rfl (sf_181_86 (d := d + 4) hI355287 (qrg hf353352 (by decide) (by decide))) ?_
                                rintro _ _ ⟨rfl, v355351, rfl, hv355351⟩
                                show qr_W (qe L xs vb) (d + 5) qx_e254 _ (246, _, [.int (qz v355351), .int (qz u355281)], qw σ355285 α355286 κ ρ, 0, 0)
                                refine qr_if_ne 276 249 rfl rfl rfl (qrg hv355351 (by decide) (by decide)) (fun h355352 => ?_) (fun h355352 => ?_)
                                · skip
                                  refine qr_iconst 277 rfl rfl ?_
                                  exact hJ355348 _ 0 σ355285 α355286 g355278 g355279 g355282 g355283 (by decide) hI355287 hF355288 ((hk355289).trans rfl) ((hk355290).trans rfl)
                                · skip
                                  refine qr_aload_n 250 rfl g355278 rfl ?_
                                  refine qr_iload 252 rfl g355283 rfl ?_
                                  refine qr_callN 255 rfl rfl rfl (sf_181_86 (d := d + 4) hI355287 (qrg hf355292 (by decide) (by decide))) ?_
                                  rintro _ _ ⟨rfl, v355353, rfl, hv355353⟩
                                  show qr_W (qe L xs vb) (d + 5) qx_e254 _ (255, _, [.int (qz v355353), .int (qz u355281)], qw σ355285 α355286 κ ρ, 0, 0)
                                  refine qr_if_ne 276 258 rfl rfl rfl (qrg hv355353 (by decide) (by decide)) (fun h355354 => ?_) (fun h355354 => ?_)
                                  · skip
                                    refine qr_iconst 277 rfl rfl ?_
                                    exact hJ355348 _ 0 σ355285 α355286 g355278 g355279 g355282 g355283 (by decide) hI355287 hF355288 ((hk355289).trans rfl) ((hk355290).trans rfl)
                                  · skip
                                    refine qr_aload_n 259 rfl g355278 rfl ?_
                                    refine qr_iload 261 rfl g355282 rfl ?_
                                    refine qr_iload 263 rfl g355283 rfl ?_
                                    refine qr_iload_n 264 rfl g355279 rfl ?_
                                    refine qr_callN 267 rfl rfl rfl (sf_195_86 (d := d + 0) hI355287 (by omega) hf355292 r2) ?_
                                    rintro _ _ ⟨σ355356, α355357, rfl, hI355358, hG355359, v355355, rfl, hv355355⟩
                                    have hF355360 : qFr [(86, 11), (86, 15), (86, 23)] [94, 95, 96, 119] σ α σ355356 α355357 := qFr_t hF355288 hG355359 (by decide) (by decide)
                                    show qr_W (qe L xs vb) (d + 5) qx_e254 _ (267, _, [.int (qz v355355), .int (qz u355281)], qw σ355356 α355357 κ ρ, 0, 0)
                                    refine qr_bipush 269 rfl (by decide) rfl ?_
                                    refine qr_icmp_eq 276 272 rfl rfl rfl hv355355 (by decide) (fun h355361 => ?_) (fun h355361 => ?_)
                                    · skip
                                      refine qr_iconst 277 rfl rfl ?_
                                      exact hJ355348 _ 0 σ355356 α355357 g355278 g355279 g355282 g355283 (by decide) hI355358 hF355360 ((hG355359.1 86 6 (by decide)).trans ((hk355289).trans rfl)) ((hG355359.1 86 11 (by decide)).trans ((hk355290).trans rfl))
                                    · skip
                                      refine qr_iconst 273 rfl rfl ?_
                                      refine qr_goto 277 rfl rfl ?_
                                      exact hJ355348 _ 1 σ355356 α355357 g355278 g355279 g355282 g355283 (by decide) hI355358 hF355360 ((hG355359.1 86 6 (by decide)).trans ((hk355289).trans rfl)) ((hG355359.1 86 11 (by decide)).trans ((hk355290).trans rfl))
                        exact hL355293 ((31 - 0 + 1 : Int)).toNat _ u353342 0 σ353345 α353346 (by omega) (qm_gk g353339 (by decide) (Or.inl (by decide))) (qm_gk g353340 (by decide) (Or.inl (by decide))) (qm_gk g353341 (by decide) (Or.inl (by decide))) (qm_gk g353343 (by decide) (Or.inr rfl)) (qm_ge _ _ _) hf353351 (by decide) hI353347 hF353348 ((hk353349).trans rfl) ((hk353350).trans rfl)
                  exact hL353353 ((32 - 0 + 1 : Int)).toNat _ 0 0 σ325563 α325555 (by omega) (qm_gk (qm_gk g324211 (by decide) (Or.inl (by decide))) (by decide) (Or.inl (by decide))) (qm_gk (qm_gk g324213 (by decide) (Or.inl (by decide))) (by decide) (Or.inl (by decide))) (qm_gk (qm_ge _ _ _) (by decide) (Or.inr rfl)) (qm_ge _ _ _) (by decide) (by decide) hI325565 hF325566 ((congrFun (congrFun e325564 86) 6).trans ((congrFun (congrFun e325560 86) 6).trans ((hk324223).trans rfl))) ((congrFun (congrFun e325564 86) 11).trans ((congrFun (congrFun e325560 86) 11).trans rfl))
                · skip
                  refine qr_iload 155 rfl g324215 rfl ?_
                  refine qr_retI rfl rfl (by decide) (by decide) ?_
                  exact ⟨_, _, rfl, hI324221, hF324222, (by have hw : σ324219 86 11 = (σ 86 11) := (hk324224).trans rfl; omega), u324216, rfl, hf324225⟩
              · skip
                refine qr_iconst 58 rfl rfl ?_
                refine qr_istore _ 60 rfl (by decide) rfl rfl ?_
                have hL356611 : ∀ (n : Nat) (ls : qm_L) (u356599 u356602 : Int) (σ356603 α356604 : Nat → Nat → Int), 31 - u356602 < (n : Int) → qm_get ls 0 = some (.ref 86) → qm_get ls 1 = some (.int (qz x1)) → qm_get ls 2 = some (.int (qz x2)) → qm_get ls 3 = some (.int (qz x3)) → qm_get ls 4 = some (.int (qz u356599)) → qm_get ls 5 = some (.int (qz u324218)) → qm_get ls 6 = some (.int (qz u356602)) → ((-2147483648) ≤ u356599 ∧ u356599 ≤ 2147483647) → (0 ≤ u356602 ∧ u356602 ≤ 31) → qI σ356603 α356604 κ ρ → qFr [(86, 11), (86, 15), (86, 23)] [94, 95, 96, 119] σ α σ356603 α356604 → σ356603 86 6 = (σ 86 6) → σ356603 86 11 = (σ 86 11) → qr_W (qe L xs vb) (d + 5) qx_e254 (fun r w' => ∃ σ' α', w' = qw σ' α' κ ρ ∧ qI σ' α' κ ρ ∧ qFr [(86, 11), (86, 15), (86, 23)] [94, 95, 96, 119] σ α σ' α' ∧ σ' 86 11 ≤ 60 ∧ ∃ v : Int, r = some (.int (qz v)) ∧ ((-2147483648) ≤ v ∧ v ≤ 2147483647)) (60, ls, [], qw σ356603 α356604 κ ρ, 0, 0) := by
                  intro n
                  induction n with
                  | zero => intro ls u356599 u356602 σ356603 α356604 hm g356594 g356595 g356596 g356597 g356598 g356600 g356601 hf356609 hf356610 hI356605 hF356606 hk356607 hk356608; exact False.elim (by omega)
                  | succ n ih356612 =>
                    intro ls u356599 u356602 σ356603 α356604 hm g356594 g356595 g356596 g356597 g356598 g356600 g356601 hf356609 hf356610 hI356605 hF356606 hk356607 hk356608
                    refine qr_iload 62 rfl g356601 rfl ?_
                    refine qr_iload 64 rfl g356600 rfl ?_
                    refine qr_icmp_ge 142 67 rfl rfl rfl (qrg hf356610 (by decide) (by decide)) (qrg hf324226 (by decide) (by decide)) (fun h356654 => ?_) (fun h356654 => ?_)
                    · skip
                      refine qr_iinc _ 145 rfl g356600 (by decide) rfl rfl ?_
                      refine qr_goto 48 rfl rfl ?_
                      exact ih324228 _ u356599 (u324218 + 1) σ356603 α356604 (by omega) (qm_gk g356594 (by decide) (Or.inl (by decide))) (qm_gk g356595 (by decide) (Or.inl (by decide))) (qm_gk g356596 (by decide) (Or.inl (by decide))) (qm_gk g356597 (by decide) (Or.inl (by decide))) (qm_gk g356598 (by decide) (Or.inr rfl)) (qm_ge _ _ _) hf356609 (by omega) hI356605 hF356606 ((hk356607).trans rfl) ((hk356608).trans rfl)
                    · skip
                      refine qr_aload_n 68 rfl g356594 rfl ?_
                      refine qr_iload 70 rfl g356600 rfl ?_
                      refine qr_callN 73 rfl rfl rfl (sf_181_86 (d := d + 4) hI356605 (qrg hf324226 (by decide) (by decide))) ?_
                      rintro _ _ ⟨rfl, v356655, rfl, hv356655⟩
                      show qr_W (qe L xs vb) (d + 5) qx_e254 _ (73, _, [.int (qz v356655)], qw σ356603 α356604 κ ρ, 0, 0)
                      have hJ356678 : ∀ (ls : qm_L) (u356670 : Int) (σ356671 α356672 : Nat → Nat → Int), qm_get ls 0 = some (.ref 86) → qm_get ls 1 = some (.int (qz x1)) → qm_get ls 2 = some (.int (qz x2)) → qm_get ls 3 = some (.int (qz x3)) → qm_get ls 4 = some (.int (qz u356599)) → qm_get ls 5 = some (.int (qz u324218)) → qm_get ls 6 = some (.int (qz u356602)) → (0 ≤ u356670 ∧ u356670 ≤ 1) → qI σ356671 α356672 κ ρ → qFr [(86, 11), (86, 15), (86, 23)] [94, 95, 96, 119] σ α σ356671 α356672 → σ356671 86 6 = (σ 86 6) → σ356671 86 11 = (σ 86 11) → qr_W (qe L xs vb) (d + 5) qx_e254 (fun r w' => ∃ σ' α', w' = qw σ' α' κ ρ ∧ qI σ' α' κ ρ ∧ qFr [(86, 11), (86, 15), (86, 23)] [94, 95, 96, 119] σ α σ' α' ∧ σ' 86 11 ≤ 60 ∧ ∃ v : Int, r = some (.int (qz v)) ∧ ((-2147483648) ≤ v ∧ v ≤ 2147483647)) (104, ls, [.int (qz u356670)], qw σ356671 α356672 κ ρ, 0, 0) := by
                        intro ls u356670 σ356671 α356672 g356663 g356664 g356665 g356666 g356667 g356668 g356669 hf356677 hI356673 hF356674 hk356675 hk356676
                        refine qr_istore _ 106 rfl (by decide) rfl rfl ?_
                        refine qr_aload_n 107 rfl (qm_gk g356663 (by decide) (Or.inl (by decide))) rfl ?_
                        refine qr_get 110 rfl rfl rfl (by decide) rfl ?_
                        refine qr_bipush 112 rfl (by decide) rfl ?_
                        refine qr_iload 114 rfl (qm_gk g356668 (by decide) (Or.inl (by decide))) rfl ?_
                        refine qr_imul 115 rfl rfl ?_
                        refine qr_iload 117 rfl (qm_gk g356669 (by decide) (Or.inr rfl)) rfl ?_
                        refine qr_iadd 118 rfl rfl ?_
                        refine qr_iload 120 rfl (qm_ge _ _ _) rfl ?_
                        refine qr_bastore 121 rfl (by decide) rfl (by omega) (by decide) (by omega) rfl ?_
                        refine qy_wA (qw_r α356672 119 (qzu (α356672 119) (((32 * u324218) + u356602) : Int).toNat u356670)) rfl (fun α356679 e356680 => ?_)
                        have hI356681 : qI σ356671 α356679 κ ρ := by rw [e356680]; exact qI_r hI356673 119 _ rfl (show 0 ≤ u356670 ∧ u356670 ≤ 1 by omega)
                        have hF356682 : qFr [(86, 11), (86, 15), (86, 23)] [94, 95, 96, 119] σ α σ356671 α356679 := by rw [e356680]; exact qFr_r hF356674 119 _ (by decide)
                        refine qr_iload 123 rfl (qm_gk g356667 (by decide) (Or.inl (by decide))) rfl ?_
                        refine qr_iload 125 rfl (qm_ge _ _ _) rfl ?_
                        have hJ356691 : ∀ (ls : qm_L) (u356689 : Int), qm_get ls 0 = some (.ref 86) → qm_get ls 1 = some (.int (qz x1)) → qm_get ls 2 = some (.int (qz x2)) → qm_get ls 3 = some (.int (qz x3)) → qm_get ls 5 = some (.int (qz u324218)) → qm_get ls 6 = some (.int (qz u356602)) → (0 ≤ u356689 ∧ u356689 ≤ 1) → qr_W (qe L xs vb) (d + 5) qx_e254 (fun r w' => ∃ σ' α', w' = qw σ' α' κ ρ ∧ qI σ' α' κ ρ ∧ qFr [(86, 11), (86, 15), (86, 23)] [94, 95, 96, 119] σ α σ' α' ∧ σ' 86 11 ≤ 60 ∧ ∃ v : Int, r = some (.int (qz v)) ∧ ((-2147483648) ≤ v ∧ v ≤ 2147483647)) (133, ls, [.int (qz u356689), .int (qz u356599)], qw σ356671 α356679 κ ρ, 0, 0) := by
                          intro ls u356689 g356683 g356684 g356685 g356686 g356687 g356688 hf356690
                          refine qr_iadd 134 rfl rfl ?_
                          refine qy_can (fun v356692 hv356692 => ?_)
                          refine qr_istore _ 136 rfl (by decide) rfl rfl ?_
                          refine qr_iinc _ 139 rfl (qm_gk g356688 (by decide) (Or.inl (by decide))) (by decide) rfl rfl ?_
                          refine qr_goto 60 rfl rfl ?_
                          exact ih356612 _ v356692 (u356602 + 1) σ356671 α356679 (by omega) (qm_gk (qm_gk g356683 (by decide) (Or.inl (by decide))) (by decide) (Or.inl (by decide))) (qm_gk (qm_gk g356684 (by decide) (Or.inl (by decide))) (by decide) (Or.inl (by decide))) (qm_gk (qm_gk g356685 (by decide) (Or.inl (by decide))) (by decide) (Or.inl (by decide))) (qm_gk (qm_gk g356686 (by decide) (Or.inr rfl)) (by decide) (Or.inl (by decide))) (qm_gk (qm_ge _ _ _) (by decide) (Or.inl (by decide))) (qm_gk (qm_gk g356687 (by decide) (Or.inl (by decide))) (by decide) (Or.inr rfl)) (qm_ge _ _ _) hv356692 (by omega) hI356681 hF356682 ((hk356675).trans rfl) ((hk356676).trans rfl)
                        refine qr_if_eq 132 128 rfl rfl rfl (qrg hf356677 (by decide) (by decide)) (fun h356693 => ?_) (fun h356693 => ?_)
                        · skip
                          refine qr_iconst 133 rfl rfl ?_
                          exact hJ356691 _ 0 (qm_gk g356663 (by decide) (Or.inl (by decide))) (qm_gk g356664 (by decide) (Or.inl (by decide))) (qm_gk g356665 (by decide) (Or.inl (by decide))) (qm_gk g356666 (by decide) (Or.inl (by decide))) (qm_gk g356668 (by decide) (Or.inl (by decide))) (qm_gk g356669 (by decide) (Or.inr rfl)) (by decide)
                        · skip
                          refine qr_iconst 129 rfl rfl ?_
                          refine qr_goto 133 rfl rfl ?_
                          exact hJ356691 _ 1 (qm_gk g356663 (by decide) (Or.inl (by decide))) (qm_gk g356664 (by decide) (Or.inl (by decide))) (qm_gk g356665 (by decide) (Or.inl (by decide))) (qm_gk g356666 (by decide) (Or.inl (by decide))) (qm_gk g356668 (by decide) (Or.inl (by decide))) (qm_gk g356669 (by decide) (Or.inr rfl)) (by decide)
                      refine qr_if_ne 103 76 rfl rfl rfl (qrg hv356655 (by decide) (by decide)) (fun h356694 => ?_) (fun h356694 => ?_)
                      · skip
                        refine qr_iconst 104 rfl rfl ?_
                        exact hJ356678 _ 0 σ356603 α356604 g356594 g356595 g356596 g356597 g356598 g356600 g356601 (by decide) hI356605 hF356606 ((hk356607).trans rfl) ((hk356608).trans rfl)
                      · skip
                        refine qr_aload_n 77 rfl g356594 rfl ?_
                        refine qr_iload 79 rfl g356601 rfl ?_
                        refine qr_callN 82 rfl rfl rfl (sf_181_86 (d := d + 4) hI356605 (qrg hf356610 (by decide) (by decide))) ?_
                        rintro _ _ ⟨rfl, v356695, rfl, hv356695⟩
                        show qr_W (qe L xs vb) (d + 5) qx_e254 _ (82, _, [.int (qz v356695)], qw σ356603 α356604 κ ρ, 0, 0)
                        refine qr_if_ne 103 85 rfl rfl rfl (qrg hv356695 (by decide) (by decide)) (fun h356696 => ?_) (fun h356696 => ?_)
                        · skip
                          refine qr_iconst 104 rfl rfl ?_
                          exact hJ356678 _ 0 σ356603 α356604 g356594 g356595 g356596 g356597 g356598 g356600 g356601 (by decide) hI356605 hF356606 ((hk356607).trans rfl) ((hk356608).trans rfl)
                        · skip
                          refine qr_aload_n 86 rfl g356594 rfl ?_
                          refine qr_iload 88 rfl g356600 rfl ?_
                          refine qr_iload 90 rfl g356601 rfl ?_
                          refine qr_iload_n 91 rfl g356596 rfl ?_
                          refine qr_callN 94 rfl rfl rfl (sf_195_86 (d := d + 0) hI356605 (by omega) hf356610 r2) ?_
                          rintro _ _ ⟨σ356698, α356699, rfl, hI356700, hG356701, v356697, rfl, hv356697⟩
                          have hF356702 : qFr [(86, 11), (86, 15), (86, 23)] [94, 95, 96, 119] σ α σ356698 α356699 := qFr_t hF356606 hG356701 (by decide) (by decide)
                          show qr_W (qe L xs vb) (d + 5) qx_e254 _ (94, _, [.int (qz v356697)], qw σ356698 α356699 κ ρ, 0, 0)
                          refine qr_bipush 96 rfl (by decide) rfl ?_
                          refine qr_icmp_eq 103 99 rfl rfl rfl hv356697 (by decide) (fun h356703 => ?_) (fun h356703 => ?_)
                          · skip
                            refine qr_iconst 104 rfl rfl ?_
                            exact hJ356678 _ 0 σ356698 α356699 g356594 g356595 g356596 g356597 g356598 g356600 g356601 (by decide) hI356700 hF356702 ((hG356701.1 86 6 (by decide)).trans ((hk356607).trans rfl)) ((hG356701.1 86 11 (by decide)).trans ((hk356608).trans rfl))
                          · skip
                            refine qr_iconst 100 rfl rfl ?_
                            refine qr_goto 104 rfl rfl ?_
                            exact hJ356678 _ 1 σ356698 α356699 g356594 g356595 g356596 g356597 g356598 g356600 g356601 (by decide) hI356700 hF356702 ((hG356701.1 86 6 (by decide)).trans ((hk356607).trans rfl)) ((hG356701.1 86 11 (by decide)).trans ((hk356608).trans rfl))
                exact hL356611 ((31 - 0 + 1 : Int)).toNat _ u324216 0 σ324219 α324220 (by omega) (qm_gk g324211 (by decide) (Or.inl (by decide))) (qm_gk g324212 (by decide) (Or.inl (by decide))) (qm_gk g324213 (by decide) (Or.inl (by decide))) (qm_gk g324214 (by decide) (Or.inl (by decide))) (qm_gk g324215 (by decide) (Or.inl (by decide))) (qm_gk g324217 (by decide) (Or.inr rfl)) (qm_ge _ _ _) hf324225 (by decide) hI324221 hF324222 ((hk324223).trans rfl) ((hk324224).trans rfl)
          exact hL324227 ((32 - 0 + 1 : Int)).toNat _ 0 0 σ α (by omega) rfl rfl rfl rfl rfl rfl (by decide) (by decide) hI hF0 (rfl) (rfl)
        · skip
          refine qr_iconst 41 rfl rfl ?_
          refine qr_retI rfl rfl (by decide) (by decide) ?_
          exact ⟨_, _, rfl, hI, hF0, (by have hw : σ 86 11 = (σ 86 11) := rfl; omega), (-1), rfl, (by decide)⟩

