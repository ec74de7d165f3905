set_option maxHeartbeats 4000000 in
set_option maxRecDepth 20000 in
/-- OneRoofModel.orders -/
theorem sf_242_86t3 {L : Nat} {xs : Nat → Int} {vb : Bool} {d : Nat} {σ α : Nat → Nat → Int} {κ : Nat → Option Nat} {ρ : Nat} {x2 : Int} {x3 : Int} {x4 : Int} (hI : qI σ α κ ρ) (r2 : (-2147483648) ≤ x2 ∧ x2 ≤ 2147483647) (r3 : (-2147483648) ≤ x3 ∧ x3 ≤ 2147483647) (r4 : 100 ≤ x4 ∧ x4 ≤ 2499) (p0 : 1 ≤ σ 86 6) (p1 : σ 86 43 ≤ 6) (p2 : 3 ≤ σ 86 43) : qm_T (qe L xs vb) (d + 9) 242 [.ref 86, .int (qz 3), .int (qz x2), .int (qz x3), .int (qz x4)] (qw σ α κ ρ) (fun r w' => ∃ σ' α', w' = qw σ' α' κ ρ ∧ qI σ' α' κ ρ ∧ qFr [(86, 15), (86, 23), (86, 30)] [96, 114] σ α σ' α' ∧ ∃ v : Int, r = some (.int (qz v)) ∧ (0 ≤ v ∧ v ≤ 1)) := by
  refine qr_start (d := d + 8) qv_e242 (Nat.le_of_ble_eq_true rfl) ?_
  show qr_W (qe L xs vb) (d + 8) qx_e242 _ (0, [(0, .ref 86), (1, .int (qz 3)), (2, .int (qz x2)), (3, .int (qz x3)), (4, .int (qz x4))], [], _, 0, 0)
  have hF0 := qFr_rf [(86, 15), (86, 23), (86, 30)] [96, 114] σ α
  have hz86_6 : 0 ≤ σ 86 6 ∧ σ 86 6 ≤ 32 := hI.1 86 6
  have hz86_43 : 0 ≤ σ 86 43 ∧ σ 86 43 ≤ 32 := hI.1 86 43
  refine qr_iload_n 1 rfl rfl rfl ?_
  refine qr_aload_n 2 rfl rfl rfl ?_
  refine qr_get 5 rfl rfl rfl (by decide) rfl ?_
  refine qr_icmp_ne 10 8 rfl rfl rfl (by omega) (by omega) (fun h1 => ?_) (fun h1 => ?_)
  · skip
    refine qr_iconst 11 rfl rfl ?_
    refine qr_istore _ 13 rfl (by decide) rfl rfl ?_
    have hL224 : ∀ (n : Nat) (ls : qm_L) (u216 : Int) (σ217 α218 : Nat → Nat → Int), 6 - u216 < (n : Int) → qm_get ls 0 = some (.ref 86) → qm_get ls 1 = some (.int (qz 3)) → qm_get ls 2 = some (.int (qz x2)) → qm_get ls 3 = some (.int (qz x3)) → qm_get ls 4 = some (.int (qz x4)) → qm_get ls 5 = some (.int (qz u216)) → (0 ≤ u216 ∧ u216 ≤ 6) → qI σ217 α218 κ ρ → qFr [(86, 15), (86, 23), (86, 30)] [96, 114] σ α σ217 α218 → σ217 86 6 = (σ 86 6) → σ217 86 43 = (σ 86 43) → qr_W (qe L xs vb) (d + 8) qx_e242 (fun r w' => ∃ σ' α', w' = qw σ' α' κ ρ ∧ qI σ' α' κ ρ ∧ qFr [(86, 15), (86, 23), (86, 30)] [96, 114] σ α σ' α' ∧ ∃ v : Int, r = some (.int (qz v)) ∧ (0 ≤ v ∧ v ≤ 1)) (13, ls, [], qw σ217 α218 κ ρ, 0, 0) := by
      intro n
      induction n with
      | zero => intro ls u216 σ217 α218 hm g210 g211 g212 g213 g214 g215 hf223 hI219 hF220 hk221 hk222; exact False.elim (by omega)
      | succ n ih225 =>
        intro ls u216 σ217 α218 hm g210 g211 g212 g213 g214 g215 hf223 hI219 hF220 hk221 hk222
        refine qr_iload 15 rfl g215 rfl ?_
        refine qr_aload_n 16 rfl g210 rfl ?_
        refine qr_get 19 rfl rfl rfl (by decide) rfl ?_
        refine qy_v (σ 86 43) ((hk222).trans rfl) ?_
        refine qr_icmp_ge 81 22 rfl rfl rfl (by omega) (by omega) (fun h226 => ?_) (fun h226 => ?_)
        · skip
          refine qr_iconst 82 rfl rfl ?_
          refine qr_retZ rfl rfl (by omega) (by decide) (by decide) ?_
          exact ⟨_, _, rfl, hI219, hF220, 0, rfl, by omega⟩
        · skip
          refine qr_iload_n 23 rfl g212 rfl ?_
          refine qr_iload 25 rfl g215 rfl ?_
          refine qr_ishr 26 rfl rfl ?_
          refine qy_can (fun v227 hv227 => ?_)
          refine qr_iconst 27 rfl rfl ?_
          refine qr_iand 28 rfl rfl ?_
          refine qy_andr (by omega) (fun v228 hv228 => ?_)
          refine qr_iconst 29 rfl rfl ?_
          refine qr_icmp_ne 35 32 rfl rfl rfl (by omega) (by omega) (fun h229 => ?_) (fun h229 => ?_)
          · skip
            refine qr_aload_n 36 rfl g210 rfl ?_
            refine qr_get 39 rfl rfl rfl (by decide) rfl ?_
            refine qr_iload_n 40 rfl g211 rfl ?_
            refine qr_iload 42 rfl g215 rfl ?_
            refine qr_iastore 43 rfl (by decide) rfl (by omega) (by decide) rfl ?_
            refine qy_wA (qw_r α218 114 (qzu (α218 114) (3 : Int).toNat u216)) rfl (fun α230 e231 => ?_)
            have hI232 : qI σ217 α230 κ ρ := by rw [e231]; exact qI_r hI219 114 _ rfl (show 0 ≤ u216 ∧ u216 ≤ 5 by omega)
            have hF233 : qFr [(86, 15), (86, 23), (86, 30)] [96, 114] σ α σ217 α230 := by rw [e231]; exact qFr_r hF220 114 _ (by decide)
            refine qr_aload_n 44 rfl g210 rfl ?_
            refine qr_iload_n 45 rfl g211 rfl ?_
            refine qr_iload_n 46 rfl g213 rfl ?_
            refine qr_iload 48 rfl g214 rfl ?_
            refine qr_callN 51 rfl rfl rfl (sf_243_86 (d := d + 2) hI232 (by omega) (by omega) (by omega) (by omega) (by omega)) ?_
            rintro _ _ ⟨σ235, α236, rfl, hI237, hG238, v234, rfl, hv234⟩
            have hF239 : qFr [(86, 15), (86, 23), (86, 30)] [96, 114] σ α σ235 α236 := qFr_t hF233 hG238 (by decide) (by decide)
            show qr_W (qe L xs vb) (d + 8) qx_e242 _ (51, _, [.int (qz v234)], qw σ235 α236 κ ρ, 0, 0)
            refine qr_if_ne 75 54 rfl rfl rfl (by omega) (fun h240 => ?_) (fun h240 => ?_)
            · skip
              refine qr_iinc _ 78 rfl g215 (by decide) rfl rfl ?_
              refine qr_goto 13 rfl rfl ?_
              exact ih225 _ (u216 + 1) σ235 α236 (by omega) (qm_gk g210 (by decide) (Or.inl (by decide))) (qm_gk g211 (by decide) (Or.inl (by decide))) (qm_gk g212 (by decide) (Or.inl (by decide))) (qm_gk g213 (by decide) (Or.inl (by decide))) (qm_gk g214 (by decide) (Or.inr rfl)) (qm_ge _ _ _) (by omega) hI237 hF239 ((hG238.1 86 6 (by decide)).trans ((hk221).trans rfl)) ((hG238.1 86 43 (by decide)).trans ((hk222).trans rfl))
            · skip
              refine qr_aload_n 55 rfl g210 rfl ?_
              refine qr_iload_n 56 rfl g211 rfl ?_
              refine qr_iconst 57 rfl rfl ?_
              refine qr_iadd 58 rfl rfl ?_
              refine qy_v 4 rfl ?_
              refine qr_iload_n 59 rfl g212 rfl ?_
              refine qr_iconst 60 rfl rfl ?_
              refine qr_iload 62 rfl g215 rfl ?_
              refine qr_ishl 63 rfl rfl ?_
              refine qy_shl1 (N := 5) (by omega) (fun v241 hv241 => ?_)
              refine qr_ior 64 rfl rfl ?_
              refine qy_can (fun v242 hv242 => ?_)
              refine qr_iload_n 65 rfl g213 rfl ?_
              refine qr_iload 67 rfl g214 rfl ?_
              refine qr_callN 70 rfl rfl rfl (sf_242_86t4 (d := d + 0) hI237 (by omega) (by omega) (by omega) (by omega) (by omega) (by omega)) ?_
              rintro _ _ ⟨σ244, α245, rfl, hI246, hG247, v243, rfl, hv243⟩
              have hF248 : qFr [(86, 15), (86, 23), (86, 30)] [96, 114] σ α σ244 α245 := qFr_t hF239 hG247 (by decide) (by decide)
              show qr_W (qe L xs vb) (d + 8) qx_e242 _ (70, _, [.int (qz v243)], qw σ244 α245 κ ρ, 0, 0)
              refine qr_if_eq 75 73 rfl rfl rfl (by omega) (fun h249 => ?_) (fun h249 => ?_)
              · skip
                refine qr_iinc _ 78 rfl g215 (by decide) rfl rfl ?_
                refine qr_goto 13 rfl rfl ?_
                exact ih225 _ (u216 + 1) σ244 α245 (by omega) (qm_gk g210 (by decide) (Or.inl (by decide))) (qm_gk g211 (by decide) (Or.inl (by decide))) (qm_gk g212 (by decide) (Or.inl (by decide))) (qm_gk g213 (by decide) (Or.inl (by decide))) (qm_gk g214 (by decide) (Or.inr rfl)) (qm_ge _ _ _) (by omega) hI246 hF248 ((hG247.1 86 6 (by decide)).trans ((hG238.1 86 6 (by decide)).trans ((hk221).trans rfl))) ((hG247.1 86 43 (by decide)).trans ((hG238.1 86 43 (by decide)).trans ((hk222).trans rfl)))
              · skip
                refine qr_iconst 74 rfl rfl ?_
                refine qr_retZ rfl rfl (by omega) (by decide) (by decide) ?_
                exact ⟨_, _, rfl, hI246, hF248, 1, rfl, by omega⟩
          · skip
            refine qr_goto 75 rfl rfl ?_
            refine qr_iinc _ 78 rfl g215 (by decide) rfl rfl ?_
            refine qr_goto 13 rfl rfl ?_
            exact ih225 _ (u216 + 1) σ217 α218 (by omega) (qm_gk g210 (by decide) (Or.inl (by decide))) (qm_gk g211 (by decide) (Or.inl (by decide))) (qm_gk g212 (by decide) (Or.inl (by decide))) (qm_gk g213 (by decide) (Or.inl (by decide))) (qm_gk g214 (by decide) (Or.inr rfl)) (qm_ge _ _ _) (by omega) hI219 hF220 ((hk221).trans rfl) ((hk222).trans rfl)
    exact hL224 ((6 - 0 + 1 : Int)).toNat _ 0 σ α (by omega) rfl rfl rfl rfl rfl rfl (by omega) hI hF0 (rfl) (rfl)
  · skip
    refine qr_iconst 9 rfl rfl ?_
    refine qr_retZ rfl rfl (by omega) (by decide) (by decide) ?_
    exact ⟨_, _, rfl, hI, hF0, 1, rfl, by omega⟩

set_option maxHeartbeats 4000000 in
set_option maxRecDepth 20000 in
/-- OneRoofModel.orders -/
theorem sf_242_86t2 {L : Nat} {xs : Nat → Int} {vb : Bool} {d : Nat} {σ α : Nat → Nat → Int} {κ : Nat → Option Nat} {ρ : Nat} {x2 : Int} {x3 : Int} {x4 : Int} (hI : qI σ α κ ρ) (r2 : (-2147483648) ≤ x2 ∧ x2 ≤ 2147483647) (r3 : (-2147483648) ≤ x3 ∧ x3 ≤ 2147483647) (r4 : 100 ≤ x4 ∧ x4 ≤ 2499) (p0 : 1 ≤ σ 86 6) (p1 : σ 86 43 ≤ 6) (p2 : 2 ≤ σ 86 43) : qm_T (qe L xs vb) (d + 10) 242 [.ref 86, .int (qz 2), .int (qz x2), .int (qz x3), .int (qz x4)] (qw σ α κ ρ) (fun r w' => ∃ σ' α', w' = qw σ' α' κ ρ ∧ qI σ' α' κ ρ ∧ qFr [(86, 15), (86, 23), (86, 30)] [96, 114] σ α σ' α' ∧ ∃ v : Int, r = some (.int (qz v)) ∧ (0 ≤ v ∧ v ≤ 1)) := by
  refine qr_start (d := d + 9) qv_e242 (Nat.le_of_ble_eq_true rfl) ?_
  show qr_W (qe L xs vb) (d + 9) qx_e242 _ (0, [(0, .ref 86), (1, .int (qz 2)), (2, .int (qz x2)), (3, .int (qz x3)), (4, .int (qz x4))], [], _, 0, 0)
  have hF0 := qFr_rf [(86, 15), (86, 23), (86, 30)] [96, 114] σ α
  have hz86_6 : 0 ≤ σ 86 6 ∧ σ 86 6 ≤ 32 := hI.1 86 6
  have hz86_43 : 0 ≤ σ 86 43 ∧ σ 86 43 ≤ 32 := hI.1 86 43
  refine qr_iload_n 1 rfl rfl rfl ?_
  refine qr_aload_n 2 rfl rfl rfl ?_
  refine qr_get 5 rfl rfl rfl (by decide) rfl ?_
  refine qr_icmp_ne 10 8 rfl rfl rfl (by omega) (by omega) (fun h1 => ?_) (fun h1 => ?_)
  · skip
    refine qr_iconst 11 rfl rfl ?_
    refine qr_istore _ 13 rfl (by decide) rfl rfl ?_
    have hL224 : ∀ (n : Nat) (ls : qm_L) (u216 : Int) (σ217 α218 : Nat → Nat → Int), 6 - u216 < (n : Int) → qm_get ls 0 = some (.ref 86) → qm_get ls 1 = some (.int (qz 2)) → qm_get ls 2 = some (.int (qz x2)) → qm_get ls 3 = some (.int (qz x3)) → qm_get ls 4 = some (.int (qz x4)) → qm_get ls 5 = some (.int (qz u216)) → (0 ≤ u216 ∧ u216 ≤ 6) → qI σ217 α218 κ ρ → qFr [(86, 15), (86, 23), (86, 30)] [96, 114] σ α σ217 α218 → σ217 86 6 = (σ 86 6) → σ217 86 43 = (σ 86 43) → qr_W (qe L xs vb) (d + 9) qx_e242 (fun r w' => ∃ σ' α', w' = qw σ' α' κ ρ ∧ qI σ' α' κ ρ ∧ qFr [(86, 15), (86, 23), (86, 30)] [96, 114] σ α σ' α' ∧ ∃ v : Int, r = some (.int (qz v)) ∧ (0 ≤ v ∧ v ≤ 1)) (13, ls, [], qw σ217 α218 κ ρ, 0, 0) := by
      intro n
      induction n with
      | zero => intro ls u216 σ217 α218 hm g210 g211 g212 g213 g214 g215 hf223 hI219 hF220 hk221 hk222; exact False.elim (by omega)
      | succ n ih225 =>
        intro ls u216 σ217 α218 hm g210 g211 g212 g213 g214 g215 hf223 hI219 hF220 hk221 hk222
        refine qr_iload 15 rfl g215 rfl ?_
        refine qr_aload_n 16 rfl g210 rfl ?_
        refine qr_get 19 rfl rfl rfl (by decide) rfl ?_
        refine qy_v (σ 86 43) ((hk222).trans rfl) ?_
        refine qr_icmp_ge 81 22 rfl rfl rfl (by omega) (by omega) (fun h226 => ?_) (fun h226 => ?_)
        · skip
          refine qr_iconst 82 rfl rfl ?_
          refine qr_retZ rfl rfl (by omega) (by decide) (by decide) ?_
          exact ⟨_, _, rfl, hI219, hF220, 0, rfl, by omega⟩
        · skip
          refine qr_iload_n 23 rfl g212 rfl ?_
          refine qr_iload 25 rfl g215 rfl ?_
          refine qr_ishr 26 rfl rfl ?_
          refine qy_can (fun v227 hv227 => ?_)
          refine qr_iconst 27 rfl rfl ?_
          refine qr_iand 28 rfl rfl ?_
          refine qy_andr (by omega) (fun v228 hv228 => ?_)
          refine qr_iconst 29 rfl rfl ?_
          refine qr_icmp_ne 35 32 rfl rfl rfl (by omega) (by omega) (fun h229 => ?_) (fun h229 => ?_)
          · skip
            refine qr_aload_n 36 rfl g210 rfl ?_
            refine qr_get 39 rfl rfl rfl (by decide) rfl ?_
            refine qr_iload_n 40 rfl g211 rfl ?_
            refine qr_iload 42 rfl g215 rfl ?_
            refine qr_iastore 43 rfl (by decide) rfl (by omega) (by decide) rfl ?_
            refine qy_wA (qw_r α218 114 (qzu (α218 114) (2 : Int).toNat u216)) rfl (fun α230 e231 => ?_)
            have hI232 : qI σ217 α230 κ ρ := by rw [e231]; exact qI_r hI219 114 _ rfl (show 0 ≤ u216 ∧ u216 ≤ 5 by omega)
            have hF233 : qFr [(86, 15), (86, 23), (86, 30)] [96, 114] σ α σ217 α230 := by rw [e231]; exact qFr_r hF220 114 _ (by decide)
            refine qr_aload_n 44 rfl g210 rfl ?_
            refine qr_iload_n 45 rfl g211 rfl ?_
            refine qr_iload_n 46 rfl g213 rfl ?_
            refine qr_iload 48 rfl g214 rfl ?_
            refine qr_callN 51 rfl rfl rfl (sf_243_86 (d := d + 3) hI232 (by omega) (by omega) (by omega) (by omega) (by omega)) ?_
            rintro _ _ ⟨σ235, α236, rfl, hI237, hG238, v234, rfl, hv234⟩
            have hF239 : qFr [(86, 15), (86, 23), (86, 30)] [96, 114] σ α σ235 α236 := qFr_t hF233 hG238 (by decide) (by decide)
            show qr_W (qe L xs vb) (d + 9) qx_e242 _ (51, _, [.int (qz v234)], qw σ235 α236 κ ρ, 0, 0)
            refine qr_if_ne 75 54 rfl rfl rfl (by omega) (fun h240 => ?_) (fun h240 => ?_)
            · skip
              refine qr_iinc _ 78 rfl g215 (by decide) rfl rfl ?_
              refine qr_goto 13 rfl rfl ?_
              exact ih225 _ (u216 + 1) σ235 α236 (by omega) (qm_gk g210 (by decide) (Or.inl (by decide))) (qm_gk g211 (by decide) (Or.inl (by decide))) (qm_gk g212 (by decide) (Or.inl (by decide))) (qm_gk g213 (by decide) (Or.inl (by decide))) (qm_gk g214 (by decide) (Or.inr rfl)) (qm_ge _ _ _) (by omega) hI237 hF239 ((hG238.1 86 6 (by decide)).trans ((hk221).trans rfl)) ((hG238.1 86 43 (by decide)).trans ((hk222).trans rfl))
            · skip
              refine qr_aload_n 55 rfl g210 rfl ?_
              refine qr_iload_n 56 rfl g211 rfl ?_
              refine qr_iconst 57 rfl rfl ?_
              refine qr_iadd 58 rfl rfl ?_
              refine qy_v 3 rfl ?_
              refine qr_iload_n 59 rfl g212 rfl ?_
              refine qr_iconst 60 rfl rfl ?_
              refine qr_iload 62 rfl g215 rfl ?_
              refine qr_ishl 63 rfl rfl ?_
              refine qy_shl1 (N := 5) (by omega) (fun v241 hv241 => ?_)
              refine qr_ior 64 rfl rfl ?_
              refine qy_can (fun v242 hv242 => ?_)
              refine qr_iload_n 65 rfl g213 rfl ?_
              refine qr_iload 67 rfl g214 rfl ?_
              refine qr_callN 70 rfl rfl rfl (sf_242_86t3 (d := d + 0) hI237 (by omega) (by omega) (by omega) (by omega) (by omega) (by omega)) ?_
              rintro _ _ ⟨σ244, α245, rfl, hI246, hG247, v243, rfl, hv243⟩
              have hF248 : qFr [(86, 15), (86, 23), (86, 30)] [96, 114] σ α σ244 α245 := qFr_t hF239 hG247 (by decide) (by decide)
              show qr_W (qe L xs vb) (d + 9) qx_e242 _ (70, _, [.int (qz v243)], qw σ244 α245 κ ρ, 0, 0)
              refine qr_if_eq 75 73 rfl rfl rfl (by omega) (fun h249 => ?_) (fun h249 => ?_)
              · skip
                refine qr_iinc _ 78 rfl g215 (by decide) rfl rfl ?_
                refine qr_goto 13 rfl rfl ?_
                exact ih225 _ (u216 + 1) σ244 α245 (by omega) (qm_gk g210 (by decide) (Or.inl (by decide))) (qm_gk g211 (by decide) (Or.inl (by decide))) (qm_gk g212 (by decide) (Or.inl (by decide))) (qm_gk g213 (by decide) (Or.inl (by decide))) (qm_gk g214 (by decide) (Or.inr rfl)) (qm_ge _ _ _) (by omega) hI246 hF248 ((hG247.1 86 6 (by decide)).trans ((hG238.1 86 6 (by decide)).trans ((hk221).trans rfl))) ((hG247.1 86 43 (by decide)).trans ((hG238.1 86 43 (by decide)).trans ((hk222).trans rfl)))
              · skip
                refine qr_iconst 74 rfl rfl ?_
                refine qr_retZ rfl rfl (by omega) (by decide) (by decide) ?_
                exact ⟨_, _, rfl, hI246, hF248, 1, rfl, by omega⟩
          · skip
            refine qr_goto 75 rfl rfl ?_
            refine qr_iinc _ 78 rfl g215 (by decide) rfl rfl ?_
            refine qr_goto 13 rfl rfl ?_
            exact ih225 _ (u216 + 1) σ217 α218 (by omega) (qm_gk g210 (by decide) (Or.inl (by decide))) (qm_gk g211 (by decide) (Or.inl (by decide))) (qm_gk g212 (by decide) (Or.inl (by decide))) (qm_gk g213 (by decide) (Or.inl (by decide))) (qm_gk g214 (by decide) (Or.inr rfl)) (qm_ge _ _ _) (by omega) hI219 hF220 ((hk221).trans rfl) ((hk222).trans rfl)
    exact hL224 ((6 - 0 + 1 : Int)).toNat _ 0 σ α (by omega) rfl rfl rfl rfl rfl rfl (by omega) hI hF0 (rfl) (rfl)
  · skip
    refine qr_iconst 9 rfl rfl ?_
    refine qr_retZ rfl rfl (by omega) (by decide) (by decide) ?_
    exact ⟨_, _, rfl, hI, hF0, 1, rfl, by omega⟩

set_option maxHeartbeats 4000000 in
set_option maxRecDepth 20000 in
/-- OneRoofModel.orders -/
theorem sf_242_86t1 {L : Nat} {xs : Nat → Int} {vb : Bool} {d : Nat} {σ α : Nat → Nat → Int} {κ : Nat → Option Nat} {ρ : Nat} {x2 : Int} {x3 : Int} {x4 : Int} (hI : qI σ α κ ρ) (r2 : (-2147483648) ≤ x2 ∧ x2 ≤ 2147483647) (r3 : (-2147483648) ≤ x3 ∧ x3 ≤ 2147483647) (r4 : 100 ≤ x4 ∧ x4 ≤ 2499) (p0 : 1 ≤ σ 86 6) (p1 : σ 86 43 ≤ 6) (p2 : 1 ≤ σ 86 43) : qm_T (qe L xs vb) (d + 11) 242 [.ref 86, .int (qz 1), .int (qz x2), .int (qz x3), .int (qz x4)] (qw σ α κ ρ) (fun r w' => ∃ σ' α', w' = qw σ' α' κ ρ ∧ qI σ' α' κ ρ ∧ qFr [(86, 15), (86, 23), (86, 30)] [96, 114] σ α σ' α' ∧ ∃ v : Int, r = some (.int (qz v)) ∧ (0 ≤ v ∧ v ≤ 1)) := by
  refine qr_start (d := d + 10) qv_e242 (Nat.le_of_ble_eq_true rfl) ?_
  show qr_W (qe L xs vb) (d + 10) qx_e242 _ (0, [(0, .ref 86), (1, .int (qz 1)), (2, .int (qz x2)), (3, .int (qz x3)), (4, .int (qz x4))], [], _, 0, 0)
  have hF0 := qFr_rf [(86, 15), (86, 23), (86, 30)] [96, 114] σ α
  have hz86_6 : 0 ≤ σ 86 6 ∧ σ 86 6 ≤ 32 := hI.1 86 6
  have hz86_43 : 0 ≤ σ 86 43 ∧ σ 86 43 ≤ 32 := hI.1 86 43
  refine qr_iload_n 1 rfl rfl rfl ?_
  refine qr_aload_n 2 rfl rfl rfl ?_
  refine qr_get 5 rfl rfl rfl (by decide) rfl ?_
  refine qr_icmp_ne 10 8 rfl rfl rfl (by omega) (by omega) (fun h1 => ?_) (fun h1 => ?_)
  · skip
    refine qr_iconst 11 rfl rfl ?_
    refine qr_istore _ 13 rfl (by decide) rfl rfl ?_
    have hL224 : ∀ (n : Nat) (ls : qm_L) (u216 : Int) (σ217 α218 : Nat → Nat → Int), 6 - u216 < (n : Int) → qm_get ls 0 = some (.ref 86) → qm_get ls 1 = some (.int (qz 1)) → qm_get ls 2 = some (.int (qz x2)) → qm_get ls 3 = some (.int (qz x3)) → qm_get ls 4 = some (.int (qz x4)) → qm_get ls 5 = some (.int (qz u216)) → (0 ≤ u216 ∧ u216 ≤ 6) → qI σ217 α218 κ ρ → qFr [(86, 15), (86, 23), (86, 30)] [96, 114] σ α σ217 α218 → σ217 86 6 = (σ 86 6) → σ217 86 43 = (σ 86 43) → qr_W (qe L xs vb) (d + 10) qx_e242 (fun r w' => ∃ σ' α', w' = qw σ' α' κ ρ ∧ qI σ' α' κ ρ ∧ qFr [(86, 15), (86, 23), (86, 30)] [96, 114] σ α σ' α' ∧ ∃ v : Int, r = some (.int (qz v)) ∧ (0 ≤ v ∧ v ≤ 1)) (13, ls, [], qw σ217 α218 κ ρ, 0, 0) := by
      intro n
      induction n with
      | zero => intro ls u216 σ217 α218 hm g210 g211 g212 g213 g214 g215 hf223 hI219 hF220 hk221 hk222; exact False.elim (by omega)
      | succ n ih225 =>
        intro ls u216 σ217 α218 hm g210 g211 g212 g213 g214 g215 hf223 hI219 hF220 hk221 hk222
        refine qr_iload 15 rfl g215 rfl ?_
        refine qr_aload_n 16 rfl g210 rfl ?_
        refine qr_get 19 rfl rfl rfl (by decide) rfl ?_
        refine qy_v (σ 86 43) ((hk222).trans rfl) ?_
        refine qr_icmp_ge 81 22 rfl rfl rfl (by omega) (by omega) (fun h226 => ?_) (fun h226 => ?_)
        · skip
          refine qr_iconst 82 rfl rfl ?_
          refine qr_retZ rfl rfl (by omega) (by decide) (by decide) ?_
          exact ⟨_, _, rfl, hI219, hF220, 0, rfl, by omega⟩
        · skip
          refine qr_iload_n 23 rfl g212 rfl ?_
          refine qr_iload 25 rfl g215 rfl ?_
          refine qr_ishr 26 rfl rfl ?_
          refine qy_can (fun v227 hv227 => ?_)
          refine qr_iconst 27 rfl rfl ?_
          refine qr_iand 28 rfl rfl ?_
          refine qy_andr (by omega) (fun v228 hv228 => ?_)
          refine qr_iconst 29 rfl rfl ?_
          refine qr_icmp_ne 35 32 rfl rfl rfl (by omega) (by omega) (fun h229 => ?_) (fun h229 => ?_)
          · skip
            refine qr_aload_n 36 rfl g210 rfl ?_
            refine qr_get 39 rfl rfl rfl (by decide) rfl ?_
            refine qr_iload_n 40 rfl g211 rfl ?_
            refine qr_iload 42 rfl g215 rfl ?_
            refine qr_iastore 43 rfl (by decide) rfl (by omega) (by decide) rfl ?_
            refine qy_wA (qw_r α218 114 (qzu (α218 114) (1 : Int).toNat u216)) rfl (fun α230 e231 => ?_)
            have hI232 : qI σ217 α230 κ ρ := by rw [e231]; exact qI_r hI219 114 _ rfl (show 0 ≤ u216 ∧ u216 ≤ 5 by omega)
            have hF233 : qFr [(86, 15), (86, 23), (86, 30)] [96, 114] σ α σ217 α230 := by rw [e231]; exact qFr_r hF220 114 _ (by decide)
            refine qr_aload_n 44 rfl g210 rfl ?_
            refine qr_iload_n 45 rfl g211 rfl ?_
            refine qr_iload_n 46 rfl g213 rfl ?_
            refine qr_iload 48 rfl g214 rfl ?_
            refine qr_callN 51 rfl rfl rfl (sf_243_86 (d := d + 4) hI232 (by omega) (by omega) (by omega) (by omega) (by omega)) ?_
            rintro _ _ ⟨σ235, α236, rfl, hI237, hG238, v234, rfl, hv234⟩
            have hF239 : qFr [(86, 15), (86, 23), (86, 30)] [96, 114] σ α σ235 α236 := qFr_t hF233 hG238 (by decide) (by decide)
            show qr_W (qe L xs vb) (d + 10) qx_e242 _ (51, _, [.int (qz v234)], qw σ235 α236 κ ρ, 0, 0)
            refine qr_if_ne 75 54 rfl rfl rfl (by omega) (fun h240 => ?_) (fun h240 => ?_)
            · skip
              refine qr_iinc _ 78 rfl g215 (by decide) rfl rfl ?_
              refine qr_goto 13 rfl rfl ?_
              exact ih225 _ (u216 + 1) σ235 α236 (by omega) (qm_gk g210 (by decide) (Or.inl (by decide))) (qm_gk g211 (by decide) (Or.inl (by decide))) (qm_gk g212 (by decide) (Or.inl (by decide))) (qm_gk g213 (by decide) (Or.inl (by decide))) (qm_gk g214 (by decide) (Or.inr rfl)) (qm_ge _ _ _) (by omega) hI237 hF239 ((hG238.1 86 6 (by decide)).trans ((hk221).trans rfl)) ((hG238.1 86 43 (by decide)).trans ((hk222).trans rfl))
            · skip
              refine qr_aload_n 55 rfl g210 rfl ?_
              refine qr_iload_n 56 rfl g211 rfl ?_
              refine qr_iconst 57 rfl rfl ?_
              refine qr_iadd 58 rfl rfl ?_
              refine qy_v 2 rfl ?_
              refine qr_iload_n 59 rfl g212 rfl ?_
              refine qr_iconst 60 rfl rfl ?_
              refine qr_iload 62 rfl g215 rfl ?_
              refine qr_ishl 63 rfl rfl ?_
              refine qy_shl1 (N := 5) (by omega) (fun v241 hv241 => ?_)
              refine qr_ior 64 rfl rfl ?_
              refine qy_can (fun v242 hv242 => ?_)
              refine qr_iload_n 65 rfl g213 rfl ?_
              refine qr_iload 67 rfl g214 rfl ?_
              refine qr_callN 70 rfl rfl rfl (sf_242_86t2 (d := d + 0) hI237 (by omega) (by omega) (by omega) (by omega) (by omega) (by omega)) ?_
              rintro _ _ ⟨σ244, α245, rfl, hI246, hG247, v243, rfl, hv243⟩
              have hF248 : qFr [(86, 15), (86, 23), (86, 30)] [96, 114] σ α σ244 α245 := qFr_t hF239 hG247 (by decide) (by decide)
              show qr_W (qe L xs vb) (d + 10) qx_e242 _ (70, _, [.int (qz v243)], qw σ244 α245 κ ρ, 0, 0)
              refine qr_if_eq 75 73 rfl rfl rfl (by omega) (fun h249 => ?_) (fun h249 => ?_)
              · skip
                refine qr_iinc _ 78 rfl g215 (by decide) rfl rfl ?_
                refine qr_goto 13 rfl rfl ?_
                exact ih225 _ (u216 + 1) σ244 α245 (by omega) (qm_gk g210 (by decide) (Or.inl (by decide))) (qm_gk g211 (by decide) (Or.inl (by decide))) (qm_gk g212 (by decide) (Or.inl (by decide))) (qm_gk g213 (by decide) (Or.inl (by decide))) (qm_gk g214 (by decide) (Or.inr rfl)) (qm_ge _ _ _) (by omega) hI246 hF248 ((hG247.1 86 6 (by decide)).trans ((hG238.1 86 6 (by decide)).trans ((hk221).trans rfl))) ((hG247.1 86 43 (by decide)).trans ((hG238.1 86 43 (by decide)).trans ((hk222).trans rfl)))
              · skip
                refine qr_iconst 74 rfl rfl ?_
                refine qr_retZ rfl rfl (by omega) (by decide) (by decide) ?_
                exact ⟨_, _, rfl, hI246, hF248, 1, rfl, by omega⟩
          · skip
            refine qr_goto 75 rfl rfl ?_
            refine qr_iinc _ 78 rfl g215 (by decide) rfl rfl ?_
            refine qr_goto 13 rfl rfl ?_
            exact ih225 _ (u216 + 1) σ217 α218 (by omega) (qm_gk g210 (by decide) (Or.inl (by decide))) (qm_gk g211 (by decide) (Or.inl (by decide))) (qm_gk g212 (by decide) (Or.inl (by decide))) (qm_gk g213 (by decide) (Or.inl (by decide))) (qm_gk g214 (by decide) (Or.inr rfl)) (qm_ge _ _ _) (by omega) hI219 hF220 ((hk221).trans rfl) ((hk222).trans rfl)
    exact hL224 ((6 - 0 + 1 : Int)).toNat _ 0 σ α (by omega) rfl rfl rfl rfl rfl rfl (by omega) hI hF0 (rfl) (rfl)
  · skip
    refine qr_iconst 9 rfl rfl ?_
    refine qr_retZ rfl rfl (by omega) (by decide) (by decide) ?_
    exact ⟨_, _, rfl, hI, hF0, 1, rfl, by omega⟩

set_option maxHeartbeats 4000000 in
set_option maxRecDepth 20000 in
/-- OneRoofModel.orders -/
theorem sf_242_86t0 {L : Nat} {xs : Nat → Int} {vb : Bool} {d : Nat} {σ α : Nat → Nat → Int} {κ : Nat → Option Nat} {ρ : Nat} {x2 : Int} {x3 : Int} {x4 : Int} (hI : qI σ α κ ρ) (r2 : (-2147483648) ≤ x2 ∧ x2 ≤ 2147483647) (r3 : (-2147483648) ≤ x3 ∧ x3 ≤ 2147483647) (r4 : 100 ≤ x4 ∧ x4 ≤ 2499) (p0 : 1 ≤ σ 86 6) (p1 : σ 86 43 ≤ 6) (p2 : 0 ≤ σ 86 43) : qm_T (qe L xs vb) (d + 12) 242 [.ref 86, .int (qz 0), .int (qz x2), .int (qz x3), .int (qz x4)] (qw σ α κ ρ) (fun r w' => ∃ σ' α', w' = qw σ' α' κ ρ ∧ qI σ' α' κ ρ ∧ qFr [(86, 15), (86, 23), (86, 30)] [96, 114] σ α σ' α' ∧ ∃ v : Int, r = some (.int (qz v)) ∧ (0 ≤ v ∧ v ≤ 1)) := by
  refine qr_start (d := d + 11) qv_e242 (Nat.le_of_ble_eq_true rfl) ?_
  show qr_W (qe L xs vb) (d + 11) qx_e242 _ (0, [(0, .ref 86), (1, .int (qz 0)), (2, .int (qz x2)), (3, .int (qz x3)), (4, .int (qz x4))], [], _, 0, 0)
  have hF0 := qFr_rf [(86, 15), (86, 23), (86, 30)] [96, 114] σ α
  have hz86_6 : 0 ≤ σ 86 6 ∧ σ 86 6 ≤ 32 := hI.1 86 6
  have hz86_43 : 0 ≤ σ 86 43 ∧ σ 86 43 ≤ 32 := hI.1 86 43
  refine qr_iload_n 1 rfl rfl rfl ?_
  refine qr_aload_n 2 rfl rfl rfl ?_
  refine qr_get 5 rfl rfl rfl (by decide) rfl ?_
  refine qr_icmp_ne 10 8 rfl rfl rfl (by omega) (by omega) (fun h1 => ?_) (fun h1 => ?_)
  · skip
    refine qr_iconst 11 rfl rfl ?_
    refine qr_istore _ 13 rfl (by decide) rfl rfl ?_
    have hL224 : ∀ (n : Nat) (ls : qm_L) (u216 : Int) (σ217 α218 : Nat → Nat → Int), 6 - u216 < (n : Int) → qm_get ls 0 = some (.ref 86) → qm_get ls 1 = some (.int (qz 0)) → qm_get ls 2 = some (.int (qz x2)) → qm_get ls 3 = some (.int (qz x3)) → qm_get ls 4 = some (.int (qz x4)) → qm_get ls 5 = some (.int (qz u216)) → (0 ≤ u216 ∧ u216 ≤ 6) → qI σ217 α218 κ ρ → qFr [(86, 15), (86, 23), (86, 30)] [96, 114] σ α σ217 α218 → σ217 86 6 = (σ 86 6) → σ217 86 43 = (σ 86 43) → qr_W (qe L xs vb) (d + 11) qx_e242 (fun r w' => ∃ σ' α', w' = qw σ' α' κ ρ ∧ qI σ' α' κ ρ ∧ qFr [(86, 15), (86, 23), (86, 30)] [96, 114] σ α σ' α' ∧ ∃ v : Int, r = some (.int (qz v)) ∧ (0 ≤ v ∧ v ≤ 1)) (13, ls, [], qw σ217 α218 κ ρ, 0, 0) := by
      intro n
      induction n with
      | zero => intro ls u216 σ217 α218 hm g210 g211 g212 g213 g214 g215 hf223 hI219 hF220 hk221 hk222; exact False.elim (by omega)
      | succ n ih225 =>
        intro ls u216 σ217 α218 hm g210 g211 g212 g213 g214 g215 hf223 hI219 hF220 hk221 hk222
        refine qr_iload 15 rfl g215 rfl ?_
        refine qr_aload_n 16 rfl g210 rfl ?_
        refine qr_get 19 rfl rfl rfl (by decide) rfl ?_
        refine qy_v (σ 86 43) ((hk222).trans rfl) ?_
        refine qr_icmp_ge 81 22 rfl rfl rfl (by omega) (by omega) (fun h226 => ?_) (fun h226 => ?_)
        · skip
          refine qr_iconst 82 rfl rfl ?_
          refine qr_retZ rfl rfl (by omega) (by decide) (by decide) ?_
          exact ⟨_, _, rfl, hI219, hF220, 0, rfl, by omega⟩
        · skip
          refine qr_iload_n 23 rfl g212 rfl ?_
          refine qr_iload 25 rfl g215 rfl ?_
          refine qr_ishr 26 rfl rfl ?_
          refine qy_can (fun v227 hv227 => ?_)
          refine qr_iconst 27 rfl rfl ?_
          refine qr_iand 28 rfl rfl ?_
          refine qy_andr (by omega) (fun v228 hv228 => ?_)
          refine qr_iconst 29 rfl rfl ?_
          refine qr_icmp_ne 35 32 rfl rfl rfl (by omega) (by omega) (fun h229 => ?_) (fun h229 => ?_)
          · skip
            refine qr_aload_n 36 rfl g210 rfl ?_
            refine qr_get 39 rfl rfl rfl (by decide) rfl ?_
            refine qr_iload_n 40 rfl g211 rfl ?_
            refine qr_iload 42 rfl g215 rfl ?_
            refine qr_iastore 43 rfl (by decide) rfl (by omega) (by decide) rfl ?_
            refine qy_wA (qw_r α218 114 (qzu (α218 114) (0 : Int).toNat u216)) rfl (fun α230 e231 => ?_)
            have hI232 : qI σ217 α230 κ ρ := by rw [e231]; exact qI_r hI219 114 _ rfl (show 0 ≤ u216 ∧ u216 ≤ 5 by omega)
            have hF233 : qFr [(86, 15), (86, 23), (86, 30)] [96, 114] σ α σ217 α230 := by rw [e231]; exact qFr_r hF220 114 _ (by decide)
            refine qr_aload_n 44 rfl g210 rfl ?_
            refine qr_iload_n 45 rfl g211 rfl ?_
            refine qr_iload_n 46 rfl g213 rfl ?_
            refine qr_iload 48 rfl g214 rfl ?_
            refine qr_callN 51 rfl rfl rfl (sf_243_86 (d := d + 5) hI232 (by omega) (by omega) (by omega) (by omega) (by omega)) ?_
            rintro _ _ ⟨σ235, α236, rfl, hI237, hG238, v234, rfl, hv234⟩
            have hF239 : qFr [(86, 15), (86, 23), (86, 30)] [96, 114] σ α σ235 α236 := qFr_t hF233 hG238 (by decide) (by decide)
            show qr_W (qe L xs vb) (d + 11) qx_e242 _ (51, _, [.int (qz v234)], qw σ235 α236 κ ρ, 0, 0)
            refine qr_if_ne 75 54 rfl rfl rfl (by omega) (fun h240 => ?_) (fun h240 => ?_)
            · skip
              refine qr_iinc _ 78 rfl g215 (by decide) rfl rfl ?_
              refine qr_goto 13 rfl rfl ?_
              exact ih225 _ (u216 + 1) σ235 α236 (by omega) (qm_gk g210 (by decide) (Or.inl (by decide))) (qm_gk g211 (by decide) (Or.inl (by decide))) (qm_gk g212 (by decide) (Or.inl (by decide))) (qm_gk g213 (by decide) (Or.inl (by decide))) (qm_gk g214 (by decide) (Or.inr rfl)) (qm_ge _ _ _) (by omega) hI237 hF239 ((hG238.1 86 6 (by decide)).trans ((hk221).trans rfl)) ((hG238.1 86 43 (by decide)).trans ((hk222).trans rfl))
            · skip
              refine qr_aload_n 55 rfl g210 rfl ?_
              refine qr_iload_n 56 rfl g211 rfl ?_
              refine qr_iconst 57 rfl rfl ?_
              refine qr_iadd 58 rfl rfl ?_
              refine qy_v 1 rfl ?_
              refine qr_iload_n 59 rfl g212 rfl ?_
              refine qr_iconst 60 rfl rfl ?_
              refine qr_iload 62 rfl g215 rfl ?_
              refine qr_ishl 63 rfl rfl ?_
              refine qy_shl1 (N := 5) (by omega) (fun v241 hv241 => ?_)
              refine qr_ior 64 rfl rfl ?_
              refine qy_can (fun v242 hv242 => ?_)
              refine qr_iload_n 65 rfl g213 rfl ?_
              refine qr_iload 67 rfl g214 rfl ?_
              refine qr_callN 70 rfl rfl rfl (sf_242_86t1 (d := d + 0) hI237 (by omega) (by omega) (by omega) (by omega) (by omega) (by omega)) ?_
              rintro _ _ ⟨σ244, α245, rfl, hI246, hG247, v243, rfl, hv243⟩
              have hF248 : qFr [(86, 15), (86, 23), (86, 30)] [96, 114] σ α σ244 α245 := qFr_t hF239 hG247 (by decide) (by decide)
              show qr_W (qe L xs vb) (d + 11) qx_e242 _ (70, _, [.int (qz v243)], qw σ244 α245 κ ρ, 0, 0)
              refine qr_if_eq 75 73 rfl rfl rfl (by omega) (fun h249 => ?_) (fun h249 => ?_)
              · skip
                refine qr_iinc _ 78 rfl g215 (by decide) rfl rfl ?_
                refine qr_goto 13 rfl rfl ?_
                exact ih225 _ (u216 + 1) σ244 α245 (by omega) (qm_gk g210 (by decide) (Or.inl (by decide))) (qm_gk g211 (by decide) (Or.inl (by decide))) (qm_gk g212 (by decide) (Or.inl (by decide))) (qm_gk g213 (by decide) (Or.inl (by decide))) (qm_gk g214 (by decide) (Or.inr rfl)) (qm_ge _ _ _) (by omega) hI246 hF248 ((hG247.1 86 6 (by decide)).trans ((hG238.1 86 6 (by decide)).trans ((hk221).trans rfl))) ((hG247.1 86 43 (by decide)).trans ((hG238.1 86 43 (by decide)).trans ((hk222).trans rfl)))
              · skip
                refine qr_iconst 74 rfl rfl ?_
                refine qr_retZ rfl rfl (by omega) (by decide) (by decide) ?_
                exact ⟨_, _, rfl, hI246, hF248, 1, rfl, by omega⟩
          · skip
            refine qr_goto 75 rfl rfl ?_
            refine qr_iinc _ 78 rfl g215 (by decide) rfl rfl ?_
            refine qr_goto 13 rfl rfl ?_
            exact ih225 _ (u216 + 1) σ217 α218 (by omega) (qm_gk g210 (by decide) (Or.inl (by decide))) (qm_gk g211 (by decide) (Or.inl (by decide))) (qm_gk g212 (by decide) (Or.inl (by decide))) (qm_gk g213 (by decide) (Or.inl (by decide))) (qm_gk g214 (by decide) (Or.inr rfl)) (qm_ge _ _ _) (by omega) hI219 hF220 ((hk221).trans rfl) ((hk222).trans rfl)
    exact hL224 ((6 - 0 + 1 : Int)).toNat _ 0 σ α (by omega) rfl rfl rfl rfl rfl rfl (by omega) hI hF0 (rfl) (rfl)
  · skip
    refine qr_iconst 9 rfl rfl ?_
    refine qr_retZ rfl rfl (by omega) (by decide) (by decide) ?_
    exact ⟨_, _, rfl, hI, hF0, 1, rfl, by omega⟩

set_option maxHeartbeats 4000000 in
set_option maxRecDepth 20000 in
/-- OneRoofModel.leave -/
theorem sf_241_86 {L : Nat} {xs : Nat → Int} {vb : Bool} {d : Nat} {σ α : Nat → Nat → Int} {κ : Nat → Option Nat} {ρ : Nat} {x1 : Int} {x2 : Int} {x3 : Int} (hI : qI σ α κ ρ) (r1 : (-9223372036854775808) ≤ x1 ∧ x1 ≤ 9223372036854775807) (r2 : (-2147483648) ≤ x2 ∧ x2 ≤ 2147483647) (r3 : (-2147483648) ≤ x3 ∧ x3 ≤ 2147483647) : qm_T (qe L xs vb) (d + 13) 241 [.ref 86, .long (ql x1), .int (qz x2), .int (qz x3)] (qw σ α κ ρ) (fun r w' => ∃ σ' α', w' = qw σ' α' κ ρ ∧ qI σ' α' κ ρ ∧ qFr [(86, 15), (86, 23), (86, 30), (86, 43)] [96, 110, 114] σ α σ' α' ∧ ∃ v : Int, r = some (.int (qz v)) ∧ ((-2147483648) ≤ v ∧ v ≤ 2147483647)) := by
  refine qr_start (d := d + 12) qv_e241 (Nat.le_of_ble_eq_true rfl) ?_
  show qr_W (qe L xs vb) (d + 12) qx_e241 _ (0, [(0, .ref 86), (1, .long (ql x1)), (3, .int (qz x2)), (4, .int (qz x3))], [], _, 0, 0)
  have hF0 := qFr_rf [(86, 15), (86, 23), (86, 30), (86, 43)] [96, 110, 114] σ α
  refine qr_iload_n 1 rfl rfl rfl ?_
  refine qr_callN 4 rfl rfl rfl (sf_191 (d := d + 10) hI (by omega)) ?_
  rintro _ _ ⟨rfl, v1, rfl, hv1, hp2⟩
  show qr_W (qe L xs vb) (d + 12) qx_e241 _ (4, _, [.int (qz v1)], qw σ α κ ρ, 0, 0)
  refine qr_if_eq 32 7 rfl rfl rfl (by omega) (fun h3 => ?_) (fun h3 => ?_)
  · skip
    refine qr_iconst 33 rfl rfl ?_
    refine qr_retI rfl rfl (by decide) (by decide) ?_
    exact ⟨_, _, rfl, hI, hF0, (-1), rfl, by omega⟩
  · skip
    refine qr_iload 9 rfl rfl rfl ?_
    refine qr_i2l 10 rfl (by omega) rfl ?_
    refine qr_ldc2 100 13 rfl (by decide) rfl ?_
    refine qr_ldc2 2499 16 rfl (by decide) rfl ?_
    refine qr_callN 19 rfl rfl rfl (sf_175 (d := d + 11) hI (by omega) (by omega) (by omega)) ?_
    rintro _ _ ⟨rfl, v4, rfl, hv4, hp5⟩
    show qr_W (qe L xs vb) (d + 12) qx_e241 _ (19, _, [.int (qz v4)], qw σ α κ ρ, 0, 0)
    refine qr_if_eq 32 22 rfl rfl rfl (by omega) (fun h6 => ?_) (fun h6 => ?_)
    · skip
      refine qr_iconst 33 rfl rfl ?_
      refine qr_retI rfl rfl (by decide) (by decide) ?_
      exact ⟨_, _, rfl, hI, hF0, (-1), rfl, by omega⟩
    · skip
      refine qr_aload_n 23 rfl rfl rfl ?_
      refine qr_lload_n 24 rfl rfl rfl ?_
      refine qr_bipush 26 rfl (by decide) rfl ?_
      refine qr_callN 29 rfl rfl rfl (sf_233_86p (d := d + 10) hI (by omega) (by omega)) ?_
      have hs9 : 0 ≤ σ 86 6 ∧ σ 86 6 ≤ 32 := hI.1 86 6
      rintro _ _ ⟨σ10, α11, rfl, hI12, hG13, v7, rfl, hv7, hp8⟩
      have hF14 : qFr [(86, 15), (86, 23), (86, 30), (86, 43)] [96, 110, 114] σ α σ10 α11 := qFr_t hF0 hG13 (by decide) (by decide)
      have hs15 : 0 ≤ σ10 86 43 ∧ σ10 86 43 ≤ 32 := hI12.1 86 43
      show qr_W (qe L xs vb) (d + 12) qx_e241 _ (29, _, [.int (qz v7)], qw σ10 α11 κ ρ, 0, 0)
      refine qr_if_ne 34 32 rfl rfl rfl (by omega) (fun h16 => ?_) (fun h16 => ?_)
      · skip
        refine qr_aload_n 35 rfl rfl rfl ?_
        refine qr_iconst 36 rfl rfl ?_
        refine qr_iconst 37 rfl rfl ?_
        refine qr_iload_n 38 rfl rfl rfl ?_
        refine qr_iload 40 rfl rfl rfl ?_
        refine qr_callN 43 rfl rfl rfl (sf_242_86t0 (d := d + 0) hI12 (by omega) (by omega) (by omega) (by omega) (by omega) (by omega)) ?_
        rintro _ _ ⟨σ18, α19, rfl, hI20, hG21, v17, rfl, hv17⟩
        have hF22 : qFr [(86, 15), (86, 23), (86, 30), (86, 43)] [96, 110, 114] σ α σ18 α19 := qFr_t hF14 hG21 (by decide) (by decide)
        show qr_W (qe L xs vb) (d + 12) qx_e241 _ (43, _, [.int (qz v17)], qw σ18 α19 κ ρ, 0, 0)
        refine qr_if_ne 49 46 rfl rfl rfl (by omega) (fun h23 => ?_) (fun h23 => ?_)
        · skip
          refine qr_iconst 50 rfl rfl ?_
          refine qr_istore _ 52 rfl (by decide) rfl rfl ?_
          refine qr_iconst 53 rfl rfl ?_
          refine qr_istore _ 55 rfl (by decide) rfl rfl ?_
          have hL154 : ∀ (n : Nat) (ls : qm_L) (u149 u151 : Int), 32 - u151 < (n : Int) → qm_get ls 0 = some (.ref 86) → qm_get ls 5 = some (.int (qz u149)) → qm_get ls 6 = some (.int (qz u151)) → ((-2147483648) ≤ u149 ∧ u149 ≤ 2147483647) → (0 ≤ u151 ∧ u151 ≤ 32) → qr_W (qe L xs vb) (d + 12) qx_e241 (fun r w' => ∃ σ' α', w' = qw σ' α' κ ρ ∧ qI σ' α' κ ρ ∧ qFr [(86, 15), (86, 23), (86, 30), (86, 43)] [96, 110, 114] σ α σ' α' ∧ ∃ v : Int, r = some (.int (qz v)) ∧ ((-2147483648) ≤ v ∧ v ≤ 2147483647)) (55, ls, [], qw σ18 α19 κ ρ, 0, 0) := by
            intro n
            induction n with
            | zero => intro ls u149 u151 hm g147 g148 g150 hf152 hf153; exact False.elim (by omega)
            | succ n ih155 =>
              intro ls u149 u151 hm g147 g148 g150 hf152 hf153
              refine qr_iload 57 rfl g150 rfl ?_
              refine qr_aload_n 58 rfl g147 rfl ?_
              refine qr_get 61 rfl rfl rfl (by decide) rfl ?_
              refine qy_v (σ10 86 43) ((hG21.1 86 43 (by decide)).trans rfl) ?_
              refine qr_icmp_ge 87 64 rfl rfl rfl (by omega) (by omega) (fun h156 => ?_) (fun h156 => ?_)
              · skip
                refine qr_iload 89 rfl g148 rfl ?_
                refine qr_retI rfl rfl (by decide) (by decide) ?_
                exact ⟨_, _, rfl, hI20, hF22, u149, rfl, by omega⟩
              · skip
                refine qr_bipush 66 rfl (by decide) rfl ?_
                refine qr_iload 68 rfl g148 rfl ?_
                refine qr_imul 69 rfl rfl ?_
                refine qy_can (fun v157 hv157 => ?_)
                refine qr_aload_n 70 rfl g147 rfl ?_
                refine qr_get 73 rfl rfl rfl (by decide) rfl ?_
                refine qr_iload 75 rfl g150 rfl ?_
                refine qr_iaload 76 rfl rfl (by omega) (by decide) rfl ?_
                refine qr_topI (fun v158 hv158 => ?_)
                have hs159 : 0 ≤ v158 ∧ v158 ≤ 5 := by rw [hv158]; exact hI20.2.1 114 _ (show _ < 6 by omega)
                refine qr_iadd 77 rfl rfl ?_
                refine qy_can (fun v160 hv160 => ?_)
                refine qr_iconst 78 rfl rfl ?_
                refine qr_iadd 79 rfl rfl ?_
                refine qy_can (fun v161 hv161 => ?_)
                refine qr_istore _ 81 rfl (by decide) rfl rfl ?_
                refine qr_iinc _ 84 rfl (qm_gk g150 (by decide) (Or.inl (by decide))) (by decide) rfl rfl ?_
                refine qr_goto 55 rfl rfl ?_
                exact ih155 _ v161 (u151 + 1) (by omega) (qm_gk (qm_gk g147 (by decide) (Or.inl (by decide))) (by decide) (Or.inl (by decide))) (qm_gk (qm_ge _ _ _) (by decide) (Or.inr rfl)) (qm_ge _ _ _) (by omega) (by omega)
          exact hL154 ((32 - 0 + 1 : Int)).toNat _ 0 0 (by omega) rfl rfl rfl (by omega) (by omega)
        · skip
          refine qr_bipush 48 rfl (by decide) rfl ?_
          refine qr_retI rfl rfl (by decide) (by decide) ?_
          exact ⟨_, _, rfl, hI20, hF22, (-2), rfl, by omega⟩
      · skip
        refine qr_iconst 33 rfl rfl ?_
        refine qr_retI rfl rfl (by decide) (by decide) ?_
        exact ⟨_, _, rfl, hI12, hF14, (-1), rfl, by omega⟩

set_option maxHeartbeats 4000000 in
set_option maxRecDepth 20000 in
/-- OneRoofModel.blowFalls -/
theorem sf_246_86 {L : Nat} {xs : Nat → Int} {vb : Bool} {d : Nat} {σ α : Nat → Nat → Int} {κ : Nat → Option Nat} {ρ : Nat} {x1 : Int} {x2 : Int} {x3 : Int} {x4 : Int} (hI : qI σ α κ ρ) (r1 : 0 ≤ x1 ∧ x1 ≤ 31) (r2 : 0 ≤ x2 ∧ x2 ≤ 31) (r3 : (-2147483648) ≤ x3 ∧ x3 ≤ 2147483647) (r4 : 0 ≤ x4 ∧ x4 ≤ 1) (p0 : 1 ≤ σ 86 6) (p1 : σ 86 50 ≤ 30) : qm_T (qe L xs vb) (d + 4) 246 [.ref 86, .int (qz x1), .int (qz x2), .int (qz x3), .int (qz x4)] (qw σ α κ ρ) (fun r w' => ∃ σ' α', w' = qw σ' α' κ ρ ∧ qI σ' α' κ ρ ∧ qFr [(86, 4), (86, 5), (86, 10), (86, 29), (86, 50)] [87, 88, 89, 90, 115, 116] σ α σ' α' ∧ σ' 86 50 = σ 86 50 + 1 ∧ r = none) := by
  refine qr_start (d := d + 3) qv_e246 (Nat.le_of_ble_eq_true rfl) ?_
  show qr_W (qe L xs vb) (d + 3) qx_e246 _ (0, [(0, .ref 86), (1, .int (qz x1)), (2, .int (qz x2)), (3, .int (qz x3)), (4, .int (qz x4))], [], _, 0, 0)
  have hF0 := qFr_rf [(86, 4), (86, 5), (86, 10), (86, 29), (86, 50)] [87, 88, 89, 90, 115, 116] σ α
  have hz86_6 : 0 ≤ σ 86 6 ∧ σ 86 6 ≤ 32 := hI.1 86 6
  have hz86_50 : 0 ≤ σ 86 50 ∧ σ 86 50 ≤ 31 := hI.1 86 50
  refine qr_iconst 1 rfl rfl ?_
  refine qr_istore _ 3 rfl (by decide) rfl rfl ?_
  have hL4095 : ∀ (n : Nat) (ls : qm_L) (u4087 : Int) (σ4088 α4089 : Nat → Nat → Int), 60 - u4087 < (n : Int) → qm_get ls 0 = some (.ref 86) → qm_get ls 1 = some (.int (qz x1)) → qm_get ls 2 = some (.int (qz x2)) → qm_get ls 3 = some (.int (qz x3)) → qm_get ls 4 = some (.int (qz x4)) → qm_get ls 5 = some (.int (qz u4087)) → (0 ≤ u4087 ∧ u4087 ≤ 60) → qI σ4088 α4089 κ ρ → qFr [(86, 4), (86, 5), (86, 10), (86, 29), (86, 50)] [87, 88, 89, 90, 115, 116] σ α σ4088 α4089 → σ4088 86 6 = (σ 86 6) → σ4088 86 50 = (σ 86 50) → qr_W (qe L xs vb) (d + 3) qx_e246 (fun r w' => ∃ σ' α', w' = qw σ' α' κ ρ ∧ qI σ' α' κ ρ ∧ qFr [(86, 4), (86, 5), (86, 10), (86, 29), (86, 50)] [87, 88, 89, 90, 115, 116] σ α σ' α' ∧ σ' 86 50 = σ 86 50 + 1 ∧ r = none) (3, ls, [], qw σ4088 α4089 κ ρ, 0, 0) := by
    intro n
    induction n with
    | zero => intro ls u4087 σ4088 α4089 hm g4081 g4082 g4083 g4084 g4085 g4086 hf4094 hI4090 hF4091 hk4092 hk4093; exact False.elim (by omega)
    | succ n ih4096 =>
      intro ls u4087 σ4088 α4089 hm g4081 g4082 g4083 g4084 g4085 g4086 hf4094 hI4090 hF4091 hk4092 hk4093
      refine qr_iload 5 rfl g4086 rfl ?_
      refine qr_aload_n 6 rfl g4081 rfl ?_
      refine qr_get 9 rfl rfl rfl (by decide) rfl ?_
      have hs4097 : 0 ≤ σ4088 86 24 ∧ σ4088 86 24 ≤ 60 := hI4090.1 86 24
      refine qr_icmp_ge 86 12 rfl rfl rfl (by omega) (by omega) (fun h4170 => ?_) (fun h4170 => ?_)
      · skip
        refine qr_aload_n 87 rfl g4081 rfl ?_
        refine qr_dup 88 rfl rfl rfl ?_
        refine qr_get 91 rfl rfl rfl (by decide) rfl ?_
        have hs4171 : (-9223372036854775808) ≤ σ4088 86 10 ∧ σ4088 86 10 ≤ 9223372036854775807 := hI4090.1 86 10
        refine qr_lconst 92 rfl rfl ?_
        refine qy_vl 1 rfl ?_
        refine qr_iload_n 93 rfl g4083 rfl ?_
        refine qr_lshl 94 rfl rfl ?_
        refine qy_canl (fun v4172 hv4172 => ?_)
        refine qr_lor 95 rfl rfl ?_
        refine qy_canl (fun v4173 hv4173 => ?_)
        refine qr_put 98 rfl (by decide) rfl (Nat.le_of_ble_eq_true rfl) (Nat.le_of_ble_eq_true rfl) (Or.inl rfl) (qr_fitL rfl _) rfl ?_
        refine qy_wS (qw_s σ4088 86 10 v4173) rfl (fun σ4174 e4175 => ?_)
        have hI4176 : qI σ4174 α4089 κ ρ := by rw [e4175]; exact qI_s hI4090 86 10 rfl (show (-9223372036854775808) ≤ v4173 ∧ v4173 ≤ 9223372036854775807 by omega)
        have hF4177 : qFr [(86, 4), (86, 5), (86, 10), (86, 29), (86, 50)] [87, 88, 89, 90, 115, 116] σ α σ4174 α4089 := by rw [e4175]; exact qFr_s hF4091 86 10 _ (by decide)
        refine qr_aload_n 99 rfl g4081 rfl ?_
        refine qr_get 102 rfl rfl rfl (by decide) rfl ?_
        refine qr_aload_n 103 rfl g4081 rfl ?_
        refine qr_get 106 rfl rfl rfl (by decide) rfl ?_
        refine qy_v (σ 86 50) ((congrFun (congrFun e4175 86) 50).trans ((hk4093).trans rfl)) ?_
        refine qr_iload_n 107 rfl g4082 rfl ?_
        refine qr_iastore 108 rfl (by decide) rfl (by omega) (by decide) rfl ?_
        refine qy_wA (qw_r α4089 115 (qzu (α4089 115) ((σ 86 50) : Int).toNat x1)) rfl (fun α4178 e4179 => ?_)
        have hI4180 : qI σ4174 α4178 κ ρ := by rw [e4179]; exact qI_r hI4176 115 _ rfl (show 0 ≤ x1 ∧ x1 ≤ 31 by omega)
        have hF4181 : qFr [(86, 4), (86, 5), (86, 10), (86, 29), (86, 50)] [87, 88, 89, 90, 115, 116] σ α σ4174 α4178 := by rw [e4179]; exact qFr_r hF4177 115 _ (by decide)
        refine qr_aload_n 109 rfl g4081 rfl ?_
        refine qr_get 112 rfl rfl rfl (by decide) rfl ?_
        refine qr_aload_n 113 rfl g4081 rfl ?_
        refine qr_get 116 rfl rfl rfl (by decide) rfl ?_
        refine qy_v (σ 86 50) ((congrFun (congrFun e4175 86) 50).trans ((hk4093).trans rfl)) ?_
        refine qr_iload_n 117 rfl g4083 rfl ?_
        refine qr_iastore 118 rfl (by decide) rfl (by omega) (by decide) rfl ?_
        refine qy_wA (qw_r α4178 116 (qzu (α4178 116) ((σ 86 50) : Int).toNat x2)) rfl (fun α4182 e4183 => ?_)
        have hI4184 : qI σ4174 α4182 κ ρ := by rw [e4183]; exact qI_r hI4180 116 _ rfl (show 0 ≤ x2 ∧ x2 ≤ 31 by omega)
        have hF4185 : qFr [(86, 4), (86, 5), (86, 10), (86, 29), (86, 50)] [87, 88, 89, 90, 115, 116] σ α σ4174 α4182 := by rw [e4183]; exact qFr_r hF4181 116 _ (by decide)
        refine qr_aload_n 119 rfl g4081 rfl ?_
        refine qr_dup 120 rfl rfl rfl ?_
        refine qr_get 123 rfl rfl rfl (by decide) rfl ?_
        refine qy_v (σ 86 50) ((congrFun (congrFun e4175 86) 50).trans ((hk4093).trans rfl)) ?_
        refine qr_iconst 124 rfl rfl ?_
        refine qr_iadd 125 rfl rfl ?_
        refine qr_put 128 rfl (by decide) rfl (Nat.le_of_ble_eq_true rfl) (Nat.le_of_ble_eq_true rfl) (Or.inl rfl) (qr_fitI rfl _) rfl ?_
        refine qy_wS (qw_s σ4174 86 50 ((σ 86 50) + 1)) rfl (fun σ4186 e4187 => ?_)
        have hI4188 : qI σ4186 α4182 κ ρ := by rw [e4187]; exact qI_s hI4184 86 50 rfl (show 0 ≤ ((σ 86 50) + 1) ∧ ((σ 86 50) + 1) ≤ 31 by omega)
        have hF4189 : qFr [(86, 4), (86, 5), (86, 10), (86, 29), (86, 50)] [87, 88, 89, 90, 115, 116] σ α σ4186 α4182 := by rw [e4187]; exact qFr_s hF4185 86 50 _ (by decide)
        refine qr_retV rfl rfl (by decide) (by decide) ?_
        exact ⟨_, _, rfl, hI4188, hF4189, (by have hw : σ4186 86 50 = ((σ 86 50) + 1) := (congrFun (congrFun e4187 86) 50).trans rfl; omega), rfl⟩
      · skip
        refine qr_aload_n 13 rfl g4081 rfl ?_
        refine qr_iload 15 rfl g4086 rfl ?_
        refine qr_iload_n 16 rfl g4082 rfl ?_
        refine qr_iload_n 17 rfl g4083 rfl ?_
        refine qr_iload_n 18 rfl g4084 rfl ?_
        refine qr_callN 21 rfl rfl rfl (sf_204_86 (d := d + 0) hI4090 (by omega) (by omega) (by omega) (by omega) (by omega)) ?_
        rintro _ _ ⟨rfl, v4190, rfl, hv4190⟩
        show qr_W (qe L xs vb) (d + 3) qx_e246 _ (21, _, [.int (qz v4190)], qw σ4088 α4089 κ ρ, 0, 0)
        have hJ4233 : ∀ (ls : qm_L) (σ4226 α4227 : Nat → Nat → Int), qm_get ls 0 = some (.ref 86) → qm_get ls 1 = some (.int (qz x1)) → qm_get ls 2 = some (.int (qz x2)) → qm_get ls 3 = some (.int (qz x3)) → qm_get ls 4 = some (.int (qz x4)) → qm_get ls 5 = some (.int (qz u4087)) → qI σ4226 α4227 κ ρ → qFr [(86, 4), (86, 5), (86, 10), (86, 29), (86, 50)] [87, 88, 89, 90, 115, 116] σ α σ4226 α4227 → σ4226 86 6 = (σ 86 6) → σ4226 86 24 = (σ4088 86 24) → σ4226 86 50 = (σ 86 50) → qr_W (qe L xs vb) (d + 3) qx_e246 (fun r w' => ∃ σ' α', w' = qw σ' α' κ ρ ∧ qI σ' α' κ ρ ∧ qFr [(86, 4), (86, 5), (86, 10), (86, 29), (86, 50)] [87, 88, 89, 90, 115, 116] σ α σ' α' ∧ σ' 86 50 = σ 86 50 + 1 ∧ r = none) (80, ls, [], qw σ4226 α4227 κ ρ, 0, 0) := by
          intro ls σ4226 α4227 g4220 g4221 g4222 g4223 g4224 g4225 hI4228 hF4229 hk4230 hk4231 hk4232
          refine qr_iinc _ 83 rfl g4225 (by decide) rfl rfl ?_
          refine qr_goto 3 rfl rfl ?_
          exact ih4096 _ (u4087 + 1) σ4226 α4227 (by omega) (qm_gk g4220 (by decide) (Or.inl (by decide))) (qm_gk g4221 (by decide) (Or.inl (by decide))) (qm_gk g4222 (by decide) (Or.inl (by decide))) (qm_gk g4223 (by decide) (Or.inl (by decide))) (qm_gk g4224 (by decide) (Or.inr rfl)) (qm_ge _ _ _) (by omega) hI4228 hF4229 ((hk4230).trans rfl) ((hk4232).trans rfl)
        refine qr_if_eq 80 24 rfl rfl rfl (by omega) (fun h4234 => ?_) (fun h4234 => ?_)
        · skip
          exact hJ4233 _ σ4088 α4089 g4081 g4082 g4083 g4084 g4085 g4086 hI4090 hF4091 ((hk4092).trans rfl) (rfl) ((hk4093).trans rfl)
        · skip
          refine qr_aload_n 25 rfl g4081 rfl ?_
          refine qr_get 28 rfl rfl rfl (by decide) rfl ?_
          refine qr_iload 30 rfl g4086 rfl ?_
          refine qr_iaload 31 rfl rfl (by omega) (by decide) rfl ?_
          refine qr_topI (fun v4235 hv4235 => ?_)
          have hs4236 : 0 ≤ v4235 ∧ v4235 ≤ 31 := by rw [hv4235]; exact hI4090.2.1 102 _ (show _ < 60 by omega)
          refine qr_iload_n 32 rfl g4082 rfl ?_
          refine qr_icmp_eq 45 35 rfl rfl rfl (by omega) (by omega) (fun h4237 => ?_) (fun h4237 => ?_)
          · skip
            refine qr_iload 47 rfl g4085 rfl ?_
            refine qr_if_eq 67 50 rfl rfl rfl (by omega) (fun h4238 => ?_) (fun h4238 => ?_)
            · skip
              refine qr_aload_n 68 rfl g4081 rfl ?_
              refine qr_dup 69 rfl rfl rfl ?_
              refine qr_get 72 rfl rfl rfl (by decide) rfl ?_
              have hs4239 : (-9223372036854775808) ≤ σ4088 86 29 ∧ σ4088 86 29 ≤ 9223372036854775807 := hI4090.1 86 29
              refine qr_lconst 73 rfl rfl ?_
              refine qy_vl 1 rfl ?_
              refine qr_iload 75 rfl g4086 rfl ?_
              refine qr_lshl 76 rfl rfl ?_
              refine qy_canl (fun v4240 hv4240 => ?_)
              refine qr_lor 77 rfl rfl ?_
              refine qy_canl (fun v4241 hv4241 => ?_)
              refine qr_put 80 rfl (by decide) rfl (Nat.le_of_ble_eq_true rfl) (Nat.le_of_ble_eq_true rfl) (Or.inl rfl) (qr_fitL rfl _) rfl ?_
              refine qy_wS (qw_s σ4088 86 29 v4241) rfl (fun σ4242 e4243 => ?_)
              have hI4244 : qI σ4242 α4089 κ ρ := by rw [e4243]; exact qI_s hI4090 86 29 rfl (show (-9223372036854775808) ≤ v4241 ∧ v4241 ≤ 9223372036854775807 by omega)
              have hF4245 : qFr [(86, 4), (86, 5), (86, 10), (86, 29), (86, 50)] [87, 88, 89, 90, 115, 116] σ α σ4242 α4089 := by rw [e4243]; exact qFr_s hF4091 86 29 _ (by decide)
              exact hJ4233 _ σ4242 α4089 g4081 g4082 g4083 g4084 g4085 g4086 hI4244 hF4245 ((congrFun (congrFun e4243 86) 6).trans ((hk4092).trans rfl)) ((congrFun (congrFun e4243 86) 24).trans rfl) ((congrFun (congrFun e4243 86) 50).trans ((hk4093).trans rfl))
            · skip
              refine qr_aload_n 51 rfl g4081 rfl ?_
              refine qr_sipush 54 rfl (by decide) rfl ?_
              refine qr_iload 56 rfl g4086 rfl ?_
              refine qr_iadd 57 rfl rfl ?_
              refine qr_bipush 59 rfl (by decide) rfl ?_
              refine qr_callN 62 rfl rfl rfl (sf_182_86 (d := d + 2) hI4090 (by omega) (by omega)) ?_
              rintro _ _ ⟨σ4247, α4248, rfl, hI4249, hG4250, v4246, rfl, hv4246⟩
              have hF4251 : qFr [(86, 4), (86, 5), (86, 10), (86, 29), (86, 50)] [87, 88, 89, 90, 115, 116] σ α σ4247 α4248 := qFr_t hF4091 hG4250 (by decide) (by decide)
              show qr_W (qe L xs vb) (d + 3) qx_e246 _ (62, _, [.int (qz v4246)], qw σ4247 α4248 κ ρ, 0, 0)
              refine qr_istore _ 64 rfl (by decide) rfl rfl ?_
              refine qr_goto 80 rfl rfl ?_
              exact hJ4233 _ σ4247 α4248 (qm_gk g4081 (by decide) (Or.inl (by decide))) (qm_gk g4082 (by decide) (Or.inl (by decide))) (qm_gk g4083 (by decide) (Or.inl (by decide))) (qm_gk g4084 (by decide) (Or.inl (by decide))) (qm_gk g4085 (by decide) (Or.inl (by decide))) (qm_gk g4086 (by decide) (Or.inr rfl)) hI4249 hF4251 ((hG4250.1 86 6 (by decide)).trans ((hk4092).trans rfl)) ((hG4250.1 86 24 (by decide)).trans rfl) ((hG4250.1 86 50 (by decide)).trans ((hk4093).trans rfl))
          · skip
            refine qr_aload_n 36 rfl g4081 rfl ?_
            refine qr_iload 38 rfl g4086 rfl ?_
            refine qr_iload_n 39 rfl g4082 rfl ?_
            refine qr_callN 42 rfl rfl rfl (sf_201_86 (d := d + 2) hI4090 (by omega) (by omega)) ?_
            rintro _ _ ⟨rfl, v4252, rfl, hv4252⟩
            show qr_W (qe L xs vb) (d + 3) qx_e246 _ (42, _, [.int (qz v4252)], qw σ4088 α4089 κ ρ, 0, 0)
            refine qr_if_eq 80 45 rfl rfl rfl (by omega) (fun h4253 => ?_) (fun h4253 => ?_)
            · skip
              exact hJ4233 _ σ4088 α4089 g4081 g4082 g4083 g4084 g4085 g4086 hI4090 hF4091 ((hk4092).trans rfl) (rfl) ((hk4093).trans rfl)
            · skip
              refine qr_iload 47 rfl g4085 rfl ?_
              refine qr_if_eq 67 50 rfl rfl rfl (by omega) (fun h4254 => ?_) (fun h4254 => ?_)
              · skip
                refine qr_aload_n 68 rfl g4081 rfl ?_
                refine qr_dup 69 rfl rfl rfl ?_
                refine qr_get 72 rfl rfl rfl (by decide) rfl ?_
                have hs4255 : (-9223372036854775808) ≤ σ4088 86 29 ∧ σ4088 86 29 ≤ 9223372036854775807 := hI4090.1 86 29
                refine qr_lconst 73 rfl rfl ?_
                refine qy_vl 1 rfl ?_
                refine qr_iload 75 rfl g4086 rfl ?_
                refine qr_lshl 76 rfl rfl ?_
                refine qy_canl (fun v4256 hv4256 => ?_)
                refine qr_lor 77 rfl rfl ?_
                refine qy_canl (fun v4257 hv4257 => ?_)
                refine qr_put 80 rfl (by decide) rfl (Nat.le_of_ble_eq_true rfl) (Nat.le_of_ble_eq_true rfl) (Or.inl rfl) (qr_fitL rfl _) rfl ?_
                refine qy_wS (qw_s σ4088 86 29 v4257) rfl (fun σ4258 e4259 => ?_)
                have hI4260 : qI σ4258 α4089 κ ρ := by rw [e4259]; exact qI_s hI4090 86 29 rfl (show (-9223372036854775808) ≤ v4257 ∧ v4257 ≤ 9223372036854775807 by omega)
                have hF4261 : qFr [(86, 4), (86, 5), (86, 10), (86, 29), (86, 50)] [87, 88, 89, 90, 115, 116] σ α σ4258 α4089 := by rw [e4259]; exact qFr_s hF4091 86 29 _ (by decide)
                exact hJ4233 _ σ4258 α4089 g4081 g4082 g4083 g4084 g4085 g4086 hI4260 hF4261 ((congrFun (congrFun e4259 86) 6).trans ((hk4092).trans rfl)) ((congrFun (congrFun e4259 86) 24).trans rfl) ((congrFun (congrFun e4259 86) 50).trans ((hk4093).trans rfl))
              · skip
                refine qr_aload_n 51 rfl g4081 rfl ?_
                refine qr_sipush 54 rfl (by decide) rfl ?_
                refine qr_iload 56 rfl g4086 rfl ?_
                refine qr_iadd 57 rfl rfl ?_
                refine qr_bipush 59 rfl (by decide) rfl ?_
                refine qr_callN 62 rfl rfl rfl (sf_182_86 (d := d + 2) hI4090 (by omega) (by omega)) ?_
                rintro _ _ ⟨σ4263, α4264, rfl, hI4265, hG4266, v4262, rfl, hv4262⟩
                have hF4267 : qFr [(86, 4), (86, 5), (86, 10), (86, 29), (86, 50)] [87, 88, 89, 90, 115, 116] σ α σ4263 α4264 := qFr_t hF4091 hG4266 (by decide) (by decide)
                show qr_W (qe L xs vb) (d + 3) qx_e246 _ (62, _, [.int (qz v4262)], qw σ4263 α4264 κ ρ, 0, 0)
                refine qr_istore _ 64 rfl (by decide) rfl rfl ?_
                refine qr_goto 80 rfl rfl ?_
                exact hJ4233 _ σ4263 α4264 (qm_gk g4081 (by decide) (Or.inl (by decide))) (qm_gk g4082 (by decide) (Or.inl (by decide))) (qm_gk g4083 (by decide) (Or.inl (by decide))) (qm_gk g4084 (by decide) (Or.inl (by decide))) (qm_gk g4085 (by decide) (Or.inl (by decide))) (qm_gk g4086 (by decide) (Or.inr rfl)) hI4265 hF4267 ((hG4266.1 86 6 (by decide)).trans ((hk4092).trans rfl)) ((hG4266.1 86 24 (by decide)).trans rfl) ((hG4266.1 86 50 (by decide)).trans ((hk4093).trans rfl))
  exact hL4095 ((60 - 0 + 1 : Int)).toNat _ 0 σ α (by omega) rfl rfl rfl rfl rfl rfl (by omega) hI hF0 (rfl) (rfl)

set_option maxHeartbeats 4000000 in
set_option maxRecDepth 20000 in
/-- OneRoofModel.mustHelp -/
theorem sf_248_86 {L : Nat} {xs : Nat → Int} {vb : Bool} {d : Nat} {σ α : Nat → Nat → Int} {κ : Nat → Option Nat} {ρ : Nat} {x1 : Int} {x2 : Int} {x3 : Int} {x4 : Int} (hI : qI σ α κ ρ) (r1 : 0 ≤ x1 ∧ x1 ≤ 31) (r2 : 0 ≤ x2 ∧ x2 ≤ 31) (r3 : (-9223372036854775808) ≤ x3 ∧ x3 ≤ 9223372036854775807) (r4 : (-2147483648) ≤ x4 ∧ x4 ≤ 2147483647) (p0 : 1 ≤ σ 86 6) : qm_T (qe L xs vb) (d + 46) 248 [.ref 86, .int (qz x1), .int (qz x2), .long (ql x3), .int (qz x4)] (qw σ α κ ρ) (fun r w' => ∃ σ' α', w' = qw σ' α' κ ρ ∧ qI σ' α' κ ρ ∧ qFr [(86, 15), (86, 23), (86, 30), (86, 35), (86, 36), (86, 37), (86, 38), (86, 39)] [96, 109] σ α σ' α' ∧ ∃ v : Int, r = some (.int (qz v)) ∧ (0 ≤ v ∧ v ≤ 1)) := by
  refine qr_start (d := d + 45) qv_e248 (Nat.le_of_ble_eq_true rfl) ?_
  show qr_W (qe L xs vb) (d + 45) qx_e248 _ (0, [(0, .ref 86), (1, .int (qz x1)), (2, .int (qz x2)), (3, .long (ql x3)), (5, .int (qz x4))], [], _, 0, 0)
  have hF0 := qFr_rf [(86, 15), (86, 23), (86, 30), (86, 35), (86, 36), (86, 37), (86, 38), (86, 39)] [96, 109] σ α
  have hz86_6 : 0 ≤ σ 86 6 ∧ σ 86 6 ≤ 32 := hI.1 86 6
  refine qr_iconst 1 rfl rfl ?_
  refine qr_istore _ 3 rfl (by decide) rfl rfl ?_
  have hL238 : ∀ (n : Nat) (ls : qm_L) (u231 : Int) (σ232 α233 : Nat → Nat → Int), 31 - u231 < (n : Int) → qm_get ls 0 = some (.ref 86) → qm_get ls 1 = some (.int (qz x1)) → qm_get ls 2 = some (.int (qz x2)) → qm_get ls 3 = some (.long (ql x3)) → qm_get ls 5 = some (.int (qz x4)) → qm_get ls 6 = some (.int (qz u231)) → (0 ≤ u231 ∧ u231 ≤ 31) → qI σ232 α233 κ ρ → qFr [(86, 15), (86, 23), (86, 30), (86, 35), (86, 36), (86, 37), (86, 38), (86, 39)] [96, 109] σ α σ232 α233 → σ232 86 6 = (σ 86 6) → qr_W (qe L xs vb) (d + 45) qx_e248 (fun r w' => ∃ σ' α', w' = qw σ' α' κ ρ ∧ qI σ' α' κ ρ ∧ qFr [(86, 15), (86, 23), (86, 30), (86, 35), (86, 36), (86, 37), (86, 38), (86, 39)] [96, 109] σ α σ' α' ∧ ∃ v : Int, r = some (.int (qz v)) ∧ (0 ≤ v ∧ v ≤ 1)) (3, ls, [], qw σ232 α233 κ ρ, 0, 0) := by
    intro n
    induction n with
    | zero => intro ls u231 σ232 α233 hm g225 g226 g227 g228 g229 g230 hf237 hI234 hF235 hk236; exact False.elim (by omega)
    | succ n ih239 =>
      intro ls u231 σ232 α233 hm g225 g226 g227 g228 g229 g230 hf237 hI234 hF235 hk236
      refine qr_iload 5 rfl g230 rfl ?_
      refine qr_aload_n 6 rfl g225 rfl ?_
      refine qr_get 9 rfl rfl rfl (by decide) rfl ?_
      have hs240 : 0 ≤ σ232 86 50 ∧ σ232 86 50 ≤ 31 := hI234.1 86 50
      refine qr_icmp_ge 51 12 rfl rfl rfl (by omega) (by omega) (fun h241 => ?_) (fun h241 => ?_)
      · skip
        refine qr_iconst 52 rfl rfl ?_
        refine qr_retZ rfl rfl (by omega) (by decide) (by decide) ?_
        exact ⟨_, _, rfl, hI234, hF235, 0, rfl, by omega⟩
      · skip
        refine qr_aload_n 13 rfl g225 rfl ?_
        refine qr_get 16 rfl rfl rfl (by decide) rfl ?_
        refine qr_iload 18 rfl g230 rfl ?_
        refine qr_iaload 19 rfl rfl (by omega) (by decide) rfl ?_
        refine qr_topI (fun v242 hv242 => ?_)
        have hs243 : 0 ≤ v242 ∧ v242 ≤ 31 := by rw [hv242]; exact hI234.2.1 115 _ (show _ < 31 by omega)
        refine qr_iload_n 20 rfl g227 rfl ?_
        refine qr_icmp_ne 45 23 rfl rfl rfl (by omega) (by omega) (fun h244 => ?_) (fun h244 => ?_)
        · skip
          refine qr_iinc _ 48 rfl g230 (by decide) rfl rfl ?_
          refine qr_goto 3 rfl rfl ?_
          exact ih239 _ (u231 + 1) σ232 α233 (by omega) (qm_gk g225 (by decide) (Or.inl (by decide))) (qm_gk g226 (by decide) (Or.inl (by decide))) (qm_gk g227 (by decide) (Or.inl (by decide))) (qm_gk g228 (by decide) (Or.inl (by decide))) (qm_gk g229 (by decide) (Or.inr rfl)) (qm_ge _ _ _) (by omega) hI234 hF235 ((hk236).trans rfl)
        · skip
          refine qr_aload_n 24 rfl g225 rfl ?_
          refine qr_iconst 25 rfl rfl ?_
          refine qr_iload_n 26 rfl g226 rfl ?_
          refine qr_iload_n 27 rfl g227 rfl ?_
          refine qr_aload_n 28 rfl g225 rfl ?_
          refine qr_get 31 rfl rfl rfl (by decide) rfl ?_
          refine qr_iload 33 rfl g230 rfl ?_
          refine qr_iaload 34 rfl rfl (by omega) (by decide) rfl ?_
          refine qr_topI (fun v245 hv245 => ?_)
          have hs246 : 0 ≤ v245 ∧ v245 ≤ 31 := by rw [hv245]; exact hI234.2.1 116 _ (show _ < 31 by omega)
          refine qr_lload_n 35 rfl g228 rfl ?_
          refine qr_iload 37 rfl g229 rfl ?_
          refine qr_callN 40 rfl rfl rfl (sf_227_86 (d := d + 0) hI234 (by omega) (by omega) (by omega) (by omega) (by omega) (by omega) (by omega)) ?_
          rintro _ _ ⟨σ248, α249, rfl, hI250, hG251, v247, rfl, hv247⟩
          have hF252 : qFr [(86, 15), (86, 23), (86, 30), (86, 35), (86, 36), (86, 37), (86, 38), (86, 39)] [96, 109] σ α σ248 α249 := qFr_t hF235 hG251 (by decide) (by decide)
          show qr_W (qe L xs vb) (d + 45) qx_e248 _ (40, _, [.int (qz v247)], qw σ248 α249 κ ρ, 0, 0)
          refine qr_if_eq 45 43 rfl rfl rfl (by omega) (fun h253 => ?_) (fun h253 => ?_)
          · skip
            refine qr_iinc _ 48 rfl g230 (by decide) rfl rfl ?_
            refine qr_goto 3 rfl rfl ?_
            exact ih239 _ (u231 + 1) σ248 α249 (by omega) (qm_gk g225 (by decide) (Or.inl (by decide))) (qm_gk g226 (by decide) (Or.inl (by decide))) (qm_gk g227 (by decide) (Or.inl (by decide))) (qm_gk g228 (by decide) (Or.inl (by decide))) (qm_gk g229 (by decide) (Or.inr rfl)) (qm_ge _ _ _) (by omega) hI250 hF252 ((hG251.1 86 6 (by decide)).trans ((hk236).trans rfl))
          · skip
            refine qr_iconst 44 rfl rfl ?_
            refine qr_retZ rfl rfl (by omega) (by decide) (by decide) ?_
            exact ⟨_, _, rfl, hI250, hF252, 1, rfl, by omega⟩
  exact hL238 ((31 - 0 + 1 : Int)).toNat _ 0 σ α (by omega) rfl rfl rfl rfl rfl rfl (by omega) hI hF0 (rfl)

set_option maxHeartbeats 4000000 in
set_option maxRecDepth 20000 in
/-- OneRoofModel.nextBlow -/
theorem sf_247_86 {L : Nat} {xs : Nat → Int} {vb : Bool} {d : Nat} {σ α : Nat → Nat → Int} {κ : Nat → Option Nat} {ρ : Nat} {x1 : Int} {x2 : Int} (hI : qI σ α κ ρ) (r1 : (-9223372036854775808) ≤ x1 ∧ x1 ≤ 9223372036854775807) (r2 : (-2147483648) ≤ x2 ∧ x2 ≤ 2147483647) : qm_T (qe L xs vb) (d + 47) 247 [.ref 86, .long (ql x1), .int (qz x2)] (qw σ α κ ρ) (fun r w' => ∃ σ' α', w' = qw σ' α' κ ρ ∧ qI σ' α' κ ρ ∧ qFr [(86, 15), (86, 23), (86, 30), (86, 35), (86, 36), (86, 37), (86, 38), (86, 39)] [96, 109] σ α σ' α' ∧ ∃ v : Int, r = some (.int (qz v)) ∧ ((-1) ≤ v ∧ v ≤ 3131) ∧ (v = -1 ∨ (0 ≤ v ∧ v / 100 ≤ 31 ∧ v % 100 ≤ 31))) := by
  refine qr_start (d := d + 46) qv_e247 (Nat.le_of_ble_eq_true rfl) ?_
  show qr_W (qe L xs vb) (d + 46) qx_e247 _ (0, [(0, .ref 86), (1, .long (ql x1)), (3, .int (qz x2))], [], _, 0, 0)
  have hF0 := qFr_rf [(86, 15), (86, 23), (86, 30), (86, 35), (86, 36), (86, 37), (86, 38), (86, 39)] [96, 109] σ α
  refine qr_iconst 1 rfl rfl ?_
  refine qr_istore _ 3 rfl (by decide) rfl rfl ?_
  have hL44588 : ∀ (n : Nat) (ls : qm_L) (u44582 : Int) (σ44583 α44584 : Nat → Nat → Int), 32 - u44582 < (n : Int) → qm_get ls 0 = some (.ref 86) → qm_get ls 1 = some (.long (ql x1)) → qm_get ls 3 = some (.int (qz x2)) → qm_get ls 4 = some (.int (qz u44582)) → (0 ≤ u44582 ∧ u44582 ≤ 32) → qI σ44583 α44584 κ ρ → qFr [(86, 15), (86, 23), (86, 30), (86, 35), (86, 36), (86, 37), (86, 38), (86, 39)] [96, 109] σ α σ44583 α44584 → qr_W (qe L xs vb) (d + 46) qx_e247 (fun r w' => ∃ σ' α', w' = qw σ' α' κ ρ ∧ qI σ' α' κ ρ ∧ qFr [(86, 15), (86, 23), (86, 30), (86, 35), (86, 36), (86, 37), (86, 38), (86, 39)] [96, 109] σ α σ' α' ∧ ∃ v : Int, r = some (.int (qz v)) ∧ ((-1) ≤ v ∧ v ≤ 3131) ∧ (v = -1 ∨ (0 ≤ v ∧ v / 100 ≤ 31 ∧ v % 100 ≤ 31))) (3, ls, [], qw σ44583 α44584 κ ρ, 0, 0) := by
    intro n
    induction n with
    | zero => intro ls u44582 σ44583 α44584 hm g44578 g44579 g44580 g44581 hf44587 hI44585 hF44586; exact False.elim (by omega)
    | succ n ih44589 =>
      intro ls u44582 σ44583 α44584 hm g44578 g44579 g44580 g44581 hf44587 hI44585 hF44586
      refine qr_iload 5 rfl g44581 rfl ?_
      refine qr_aload_n 6 rfl g44578 rfl ?_
      refine qr_get 9 rfl rfl rfl (by decide) rfl ?_
      have hs44590 : 0 ≤ σ44583 86 6 ∧ σ44583 86 6 ≤ 32 := hI44585.1 86 6
      refine qr_icmp_ge 101 12 rfl rfl rfl (by omega) (by omega) (fun h44591 => ?_) (fun h44591 => ?_)
      · skip
        refine qr_iconst 102 rfl rfl ?_
        refine qr_istore _ 104 rfl (by decide) rfl rfl ?_
        have hL48989 : ∀ (n : Nat) (ls : qm_L) (u48982 : Int) (σ48983 α48984 : Nat → Nat → Int), 32 - u48982 < (n : Int) → qm_get ls 0 = some (.ref 86) → qm_get ls 1 = some (.long (ql x1)) → qm_get ls 3 = some (.int (qz x2)) → qm_get ls 4 = some (.int (qz u48982)) → (0 ≤ u48982 ∧ u48982 ≤ 32) → qI σ48983 α48984 κ ρ → qFr [(86, 15), (86, 23), (86, 30), (86, 35), (86, 36), (86, 37), (86, 38), (86, 39)] [96, 109] σ α σ48983 α48984 → σ48983 86 6 = (σ44583 86 6) → qr_W (qe L xs vb) (d + 46) qx_e247 (fun r w' => ∃ σ' α', w' = qw σ' α' κ ρ ∧ qI σ' α' κ ρ ∧ qFr [(86, 15), (86, 23), (86, 30), (86, 35), (86, 36), (86, 37), (86, 38), (86, 39)] [96, 109] σ α σ' α' ∧ ∃ v : Int, r = some (.int (qz v)) ∧ ((-1) ≤ v ∧ v ≤ 3131) ∧ (v = -1 ∨ (0 ≤ v ∧ v / 100 ≤ 31 ∧ v % 100 ≤ 31))) (104, ls, [], qw σ48983 α48984 κ ρ, 0, 0) := by
          intro n
          induction n with
          | zero => intro ls u48982 σ48983 α48984 hm g48978 g48979 g48980 g48981 hf48988 hI48985 hF48986 hk48987; exact False.elim (by omega)
          | succ n ih48990 =>
            intro ls u48982 σ48983 α48984 hm g48978 g48979 g48980 g48981 hf48988 hI48985 hF48986 hk48987
            refine qr_iload 106 rfl g48981 rfl ?_
            refine qr_aload_n 107 rfl g48978 rfl ?_
            refine qr_get 110 rfl rfl rfl (by decide) rfl ?_
            refine qy_v (σ44583 86 6) ((hk48987).trans rfl) ?_
            refine qr_icmp_ge 202 113 rfl rfl rfl (by omega) (by omega) (fun h48991 => ?_) (fun h48991 => ?_)
            · skip
              refine qr_iconst 203 rfl rfl ?_
              refine qr_retI rfl rfl (by decide) (by decide) ?_
              exact ⟨_, _, rfl, hI48985, hF48986, (-1), rfl, by omega, by omega⟩
            · skip
              refine qr_iconst 114 rfl rfl ?_
              refine qr_istore _ 116 rfl (by decide) rfl rfl ?_
              have hL49274 : ∀ (n : Nat) (ls : qm_L) (u49267 : Int) (σ49268 α49269 : Nat → Nat → Int), 32 - u49267 < (n : Int) → qm_get ls 0 = some (.ref 86) → qm_get ls 1 = some (.long (ql x1)) → qm_get ls 3 = some (.int (qz x2)) → qm_get ls 4 = some (.int (qz u48982)) → qm_get ls 5 = some (.int (qz u49267)) → (0 ≤ u49267 ∧ u49267 ≤ 32) → qI σ49268 α49269 κ ρ → qFr [(86, 15), (86, 23), (86, 30), (86, 35), (86, 36), (86, 37), (86, 38), (86, 39)] [96, 109] σ α σ49268 α49269 → σ49268 86 6 = (σ44583 86 6) → qr_W (qe L xs vb) (d + 46) qx_e247 (fun r w' => ∃ σ' α', w' = qw σ' α' κ ρ ∧ qI σ' α' κ ρ ∧ qFr [(86, 15), (86, 23), (86, 30), (86, 35), (86, 36), (86, 37), (86, 38), (86, 39)] [96, 109] σ α σ' α' ∧ ∃ v : Int, r = some (.int (qz v)) ∧ ((-1) ≤ v ∧ v ≤ 3131) ∧ (v = -1 ∨ (0 ≤ v ∧ v / 100 ≤ 31 ∧ v % 100 ≤ 31))) (116, ls, [], qw σ49268 α49269 κ ρ, 0, 0) := by
                intro n
                induction n with
                | zero => intro ls u49267 σ49268 α49269 hm g49262 g49263 g49264 g49265 g49266 hf49273 hI49270 hF49271 hk49272; exact False.elim (by omega)
                | succ n ih49275 =>
                  intro ls u49267 σ49268 α49269 hm g49262 g49263 g49264 g49265 g49266 hf49273 hI49270 hF49271 hk49272
                  refine qr_iload 118 rfl g49266 rfl ?_
                  refine qr_aload_n 119 rfl g49262 rfl ?_
                  refine qr_get 122 rfl rfl rfl (by decide) rfl ?_
                  refine qy_v (σ44583 86 6) ((hk49272).trans rfl) ?_
                  refine qr_icmp_ge 196 125 rfl rfl rfl (by omega) (by omega) (fun h49276 => ?_) (fun h49276 => ?_)
                  · skip
                    refine qr_iinc _ 199 rfl g49265 (by decide) rfl rfl ?_
                    refine qr_goto 104 rfl rfl ?_
                    exact ih48990 _ (u48982 + 1) σ49268 α49269 (by omega) (qm_gk g49262 (by decide) (Or.inl (by decide))) (qm_gk g49263 (by decide) (Or.inl (by decide))) (qm_gk g49264 (by decide) (Or.inr rfl)) (qm_ge _ _ _) (by omega) hI49270 hF49271 ((hk49272).trans rfl)
                  · skip
                    refine qr_lload_n 126 rfl g49263 rfl ?_
                    refine qr_aload_n 127 rfl g49262 rfl ?_
                    refine qr_get 130 rfl rfl rfl (by decide) rfl ?_
                    have hs49277 : (-9223372036854775808) ≤ σ49268 86 10 ∧ σ49268 86 10 ≤ 9223372036854775807 := hI49270.1 86 10
                    refine qr_ldc2 (-1) 133 rfl (by decide) rfl ?_
                    refine qr_lxor 134 rfl rfl ?_
                    refine qy_canl (fun v49278 hv49278 => ?_)
                    refine qr_land 135 rfl rfl ?_
                    refine qy_canl (fun v49279 hv49279 => ?_)
                    refine qr_iload 137 rfl g49265 rfl ?_
                    refine qr_callN 140 rfl rfl rfl (sf_225 (d := d + 45) hI49270 (by omega) (by omega)) ?_
                    rintro _ _ ⟨rfl, v49280, rfl, hv49280⟩
                    show qr_W (qe L xs vb) (d + 46) qx_e247 _ (140, _, [.int (qz v49280)], qw σ49268 α49269 κ ρ, 0, 0)
                    refine qr_if_eq 196 143 rfl rfl rfl (by omega) (fun h49281 => ?_) (fun h49281 => ?_)
                    · skip
                      refine qr_iinc _ 199 rfl g49265 (by decide) rfl rfl ?_
                      refine qr_goto 104 rfl rfl ?_
                      exact ih48990 _ (u48982 + 1) σ49268 α49269 (by omega) (qm_gk g49262 (by decide) (Or.inl (by decide))) (qm_gk g49263 (by decide) (Or.inl (by decide))) (qm_gk g49264 (by decide) (Or.inr rfl)) (qm_ge _ _ _) (by omega) hI49270 hF49271 ((hk49272).trans rfl)
                    · skip
                      refine qr_iload 145 rfl g49266 rfl ?_
                      refine qr_iload 147 rfl g49265 rfl ?_
                      refine qr_icmp_eq 190 150 rfl rfl rfl (by omega) (by omega) (fun h49282 => ?_) (fun h49282 => ?_)
                      · skip
                        refine qr_iinc _ 193 rfl g49266 (by decide) rfl rfl ?_
                        refine qr_goto 116 rfl rfl ?_
                        exact ih49275 _ (u49267 + 1) σ49268 α49269 (by omega) (qm_gk g49262 (by decide) (Or.inl (by decide))) (qm_gk g49263 (by decide) (Or.inl (by decide))) (qm_gk g49264 (by decide) (Or.inl (by decide))) (qm_gk g49265 (by decide) (Or.inr rfl)) (qm_ge _ _ _) (by omega) hI49270 hF49271 ((hk49272).trans rfl)
                      · skip
                        refine qr_lload_n 151 rfl g49263 rfl ?_
                        refine qr_aload_n 152 rfl g49262 rfl ?_
                        refine qr_get 155 rfl rfl rfl (by decide) rfl ?_
                        refine qr_ldc2 (-1) 158 rfl (by decide) rfl ?_
                        refine qr_lxor 159 rfl rfl ?_
                        refine qy_canl (fun v49283 hv49283 => ?_)
                        refine qr_land 160 rfl rfl ?_
                        refine qy_canl (fun v49284 hv49284 => ?_)
                        refine qr_iload 162 rfl g49266 rfl ?_
                        refine qr_callN 165 rfl rfl rfl (sf_225 (d := d + 45) hI49270 (by omega) (by omega)) ?_
                        rintro _ _ ⟨rfl, v49285, rfl, hv49285⟩
                        show qr_W (qe L xs vb) (d + 46) qx_e247 _ (165, _, [.int (qz v49285)], qw σ49268 α49269 κ ρ, 0, 0)
                        refine qr_if_eq 190 168 rfl rfl rfl (by omega) (fun h49286 => ?_) (fun h49286 => ?_)
                        · skip
                          refine qr_iinc _ 193 rfl g49266 (by decide) rfl rfl ?_
                          refine qr_goto 116 rfl rfl ?_
                          exact ih49275 _ (u49267 + 1) σ49268 α49269 (by omega) (qm_gk g49262 (by decide) (Or.inl (by decide))) (qm_gk g49263 (by decide) (Or.inl (by decide))) (qm_gk g49264 (by decide) (Or.inl (by decide))) (qm_gk g49265 (by decide) (Or.inr rfl)) (qm_ge _ _ _) (by omega) hI49270 hF49271 ((hk49272).trans rfl)
                        · skip
                          refine qr_aload_n 169 rfl g49262 rfl ?_
                          refine qr_iload 171 rfl g49265 rfl ?_
                          refine qr_iload 173 rfl g49266 rfl ?_
                          refine qr_lload_n 174 rfl g49263 rfl ?_
                          refine qr_iload_n 175 rfl g49264 rfl ?_
                          refine qr_callN 178 rfl rfl rfl (sf_226_86 (d := d + 0) hI49270 (by omega) (by omega) (by omega) (by omega) (by omega)) ?_
                          rintro _ _ ⟨σ49288, α49289, rfl, hI49290, hG49291, v49287, rfl, hv49287⟩
                          have hF49292 : qFr [(86, 15), (86, 23), (86, 30), (86, 35), (86, 36), (86, 37), (86, 38), (86, 39)] [96, 109] σ α σ49288 α49289 := qFr_t hF49271 hG49291 (by decide) (by decide)
                          show qr_W (qe L xs vb) (d + 46) qx_e247 _ (178, _, [.int (qz v49287)], qw σ49288 α49289 κ ρ, 0, 0)
                          refine qr_if_eq 190 181 rfl rfl rfl (by omega) (fun h49293 => ?_) (fun h49293 => ?_)
                          · skip
                            refine qr_iinc _ 193 rfl g49266 (by decide) rfl rfl ?_
                            refine qr_goto 116 rfl rfl ?_
                            exact ih49275 _ (u49267 + 1) σ49288 α49289 (by omega) (qm_gk g49262 (by decide) (Or.inl (by decide))) (qm_gk g49263 (by decide) (Or.inl (by decide))) (qm_gk g49264 (by decide) (Or.inl (by decide))) (qm_gk g49265 (by decide) (Or.inr rfl)) (qm_ge _ _ _) (by omega) hI49290 hF49292 ((hG49291.1 86 6 (by decide)).trans ((hk49272).trans rfl))
                          · skip
                            refine qr_bipush 183 rfl (by decide) rfl ?_
                            refine qr_iload 185 rfl g49265 rfl ?_
                            refine qr_imul 186 rfl rfl ?_
                            refine qr_iload 188 rfl g49266 rfl ?_
                            refine qr_iadd 189 rfl rfl ?_
                            refine qr_retI rfl rfl (by decide) (by decide) ?_
                            exact ⟨_, _, rfl, hI49290, hF49292, ((100 * u48982) + u49267), rfl, by omega, by omega⟩
              exact hL49274 ((32 - 0 + 1 : Int)).toNat _ 0 σ48983 α48984 (by omega) (qm_gk g48978 (by decide) (Or.inl (by decide))) (qm_gk g48979 (by decide) (Or.inl (by decide))) (qm_gk g48980 (by decide) (Or.inl (by decide))) (qm_gk g48981 (by decide) (Or.inr rfl)) (qm_ge _ _ _) (by omega) hI48985 hF48986 ((hk48987).trans rfl)
        exact hL48989 ((32 - 0 + 1 : Int)).toNat _ 0 σ44583 α44584 (by omega) (qm_gk g44578 (by decide) (Or.inl (by decide))) (qm_gk g44579 (by decide) (Or.inl (by decide))) (qm_gk g44580 (by decide) (Or.inr rfl)) (qm_ge _ _ _) (by omega) hI44585 hF44586 (rfl)
      · skip
        refine qr_iconst 13 rfl rfl ?_
        refine qr_istore _ 15 rfl (by decide) rfl rfl ?_
        have hL49576 : ∀ (n : Nat) (ls : qm_L) (u49569 : Int) (σ49570 α49571 : Nat → Nat → Int), 32 - u49569 < (n : Int) → qm_get ls 0 = some (.ref 86) → qm_get ls 1 = some (.long (ql x1)) → qm_get ls 3 = some (.int (qz x2)) → qm_get ls 4 = some (.int (qz u44582)) → qm_get ls 5 = some (.int (qz u49569)) → (0 ≤ u49569 ∧ u49569 ≤ 32) → qI σ49570 α49571 κ ρ → qFr [(86, 15), (86, 23), (86, 30), (86, 35), (86, 36), (86, 37), (86, 38), (86, 39)] [96, 109] σ α σ49570 α49571 → σ49570 86 6 = (σ44583 86 6) → qr_W (qe L xs vb) (d + 46) qx_e247 (fun r w' => ∃ σ' α', w' = qw σ' α' κ ρ ∧ qI σ' α' κ ρ ∧ qFr [(86, 15), (86, 23), (86, 30), (86, 35), (86, 36), (86, 37), (86, 38), (86, 39)] [96, 109] σ α σ' α' ∧ ∃ v : Int, r = some (.int (qz v)) ∧ ((-1) ≤ v ∧ v ≤ 3131) ∧ (v = -1 ∨ (0 ≤ v ∧ v / 100 ≤ 31 ∧ v % 100 ≤ 31))) (15, ls, [], qw σ49570 α49571 κ ρ, 0, 0) := by
          intro n
          induction n with
          | zero => intro ls u49569 σ49570 α49571 hm g49564 g49565 g49566 g49567 g49568 hf49575 hI49572 hF49573 hk49574; exact False.elim (by omega)
          | succ n ih49577 =>
            intro ls u49569 σ49570 α49571 hm g49564 g49565 g49566 g49567 g49568 hf49575 hI49572 hF49573 hk49574
            refine qr_iload 17 rfl g49568 rfl ?_
            refine qr_aload_n 18 rfl g49564 rfl ?_
            refine qr_get 21 rfl rfl rfl (by decide) rfl ?_
            refine qy_v (σ44583 86 6) ((hk49574).trans rfl) ?_
            refine qr_icmp_ge 95 24 rfl rfl rfl (by omega) (by omega) (fun h49578 => ?_) (fun h49578 => ?_)
            · skip
              refine qr_iinc _ 98 rfl g49567 (by decide) rfl rfl ?_
              refine qr_goto 3 rfl rfl ?_
              exact ih44589 _ (u44582 + 1) σ49570 α49571 (by omega) (qm_gk g49564 (by decide) (Or.inl (by decide))) (qm_gk g49565 (by decide) (Or.inl (by decide))) (qm_gk g49566 (by decide) (Or.inr rfl)) (qm_ge _ _ _) (by omega) hI49572 hF49573
            · skip
              refine qr_lload_n 25 rfl g49565 rfl ?_
              refine qr_aload_n 26 rfl g49564 rfl ?_
              refine qr_get 29 rfl rfl rfl (by decide) rfl ?_
              have hs49579 : (-9223372036854775808) ≤ σ49570 86 10 ∧ σ49570 86 10 ≤ 9223372036854775807 := hI49572.1 86 10
              refine qr_ldc2 (-1) 32 rfl (by decide) rfl ?_
              refine qr_lxor 33 rfl rfl ?_
              refine qy_canl (fun v49580 hv49580 => ?_)
              refine qr_land 34 rfl rfl ?_
              refine qy_canl (fun v49581 hv49581 => ?_)
              refine qr_iload 36 rfl g49567 rfl ?_
              refine qr_callN 39 rfl rfl rfl (sf_225 (d := d + 45) hI49572 (by omega) (by omega)) ?_
              rintro _ _ ⟨rfl, v49582, rfl, hv49582⟩
              show qr_W (qe L xs vb) (d + 46) qx_e247 _ (39, _, [.int (qz v49582)], qw σ49570 α49571 κ ρ, 0, 0)
              refine qr_if_eq 95 42 rfl rfl rfl (by omega) (fun h49583 => ?_) (fun h49583 => ?_)
              · skip
                refine qr_iinc _ 98 rfl g49567 (by decide) rfl rfl ?_
                refine qr_goto 3 rfl rfl ?_
                exact ih44589 _ (u44582 + 1) σ49570 α49571 (by omega) (qm_gk g49564 (by decide) (Or.inl (by decide))) (qm_gk g49565 (by decide) (Or.inl (by decide))) (qm_gk g49566 (by decide) (Or.inr rfl)) (qm_ge _ _ _) (by omega) hI49572 hF49573
              · skip
                refine qr_iload 44 rfl g49568 rfl ?_
                refine qr_iload 46 rfl g49567 rfl ?_
                refine qr_icmp_eq 89 49 rfl rfl rfl (by omega) (by omega) (fun h49584 => ?_) (fun h49584 => ?_)
                · skip
                  refine qr_iinc _ 92 rfl g49568 (by decide) rfl rfl ?_
                  refine qr_goto 15 rfl rfl ?_
                  exact ih49577 _ (u49569 + 1) σ49570 α49571 (by omega) (qm_gk g49564 (by decide) (Or.inl (by decide))) (qm_gk g49565 (by decide) (Or.inl (by decide))) (qm_gk g49566 (by decide) (Or.inl (by decide))) (qm_gk g49567 (by decide) (Or.inr rfl)) (qm_ge _ _ _) (by omega) hI49572 hF49573 ((hk49574).trans rfl)
                · skip
                  refine qr_lload_n 50 rfl g49565 rfl ?_
                  refine qr_aload_n 51 rfl g49564 rfl ?_
                  refine qr_get 54 rfl rfl rfl (by decide) rfl ?_
                  refine qr_ldc2 (-1) 57 rfl (by decide) rfl ?_
                  refine qr_lxor 58 rfl rfl ?_
                  refine qy_canl (fun v49585 hv49585 => ?_)
                  refine qr_land 59 rfl rfl ?_
                  refine qy_canl (fun v49586 hv49586 => ?_)
                  refine qr_iload 61 rfl g49568 rfl ?_
                  refine qr_callN 64 rfl rfl rfl (sf_225 (d := d + 45) hI49572 (by omega) (by omega)) ?_
                  rintro _ _ ⟨rfl, v49587, rfl, hv49587⟩
                  show qr_W (qe L xs vb) (d + 46) qx_e247 _ (64, _, [.int (qz v49587)], qw σ49570 α49571 κ ρ, 0, 0)
                  refine qr_if_eq 89 67 rfl rfl rfl (by omega) (fun h49588 => ?_) (fun h49588 => ?_)
                  · skip
                    refine qr_iinc _ 92 rfl g49568 (by decide) rfl rfl ?_
                    refine qr_goto 15 rfl rfl ?_
                    exact ih49577 _ (u49569 + 1) σ49570 α49571 (by omega) (qm_gk g49564 (by decide) (Or.inl (by decide))) (qm_gk g49565 (by decide) (Or.inl (by decide))) (qm_gk g49566 (by decide) (Or.inl (by decide))) (qm_gk g49567 (by decide) (Or.inr rfl)) (qm_ge _ _ _) (by omega) hI49572 hF49573 ((hk49574).trans rfl)
                  · skip
                    refine qr_aload_n 68 rfl g49564 rfl ?_
                    refine qr_iload 70 rfl g49567 rfl ?_
                    refine qr_iload 72 rfl g49568 rfl ?_
                    refine qr_lload_n 73 rfl g49565 rfl ?_
                    refine qr_iload_n 74 rfl g49566 rfl ?_
                    refine qr_callN 77 rfl rfl rfl (sf_248_86 (d := d + 0) hI49572 (by omega) (by omega) (by omega) (by omega) (by omega)) ?_
                    rintro _ _ ⟨σ49590, α49591, rfl, hI49592, hG49593, v49589, rfl, hv49589⟩
                    have hF49594 : qFr [(86, 15), (86, 23), (86, 30), (86, 35), (86, 36), (86, 37), (86, 38), (86, 39)] [96, 109] σ α σ49590 α49591 := qFr_t hF49573 hG49593 (by decide) (by decide)
                    show qr_W (qe L xs vb) (d + 46) qx_e247 _ (77, _, [.int (qz v49589)], qw σ49590 α49591 κ ρ, 0, 0)
                    refine qr_if_eq 89 80 rfl rfl rfl (by omega) (fun h49595 => ?_) (fun h49595 => ?_)
                    · skip
                      refine qr_iinc _ 92 rfl g49568 (by decide) rfl rfl ?_
                      refine qr_goto 15 rfl rfl ?_
                      exact ih49577 _ (u49569 + 1) σ49590 α49591 (by omega) (qm_gk g49564 (by decide) (Or.inl (by decide))) (qm_gk g49565 (by decide) (Or.inl (by decide))) (qm_gk g49566 (by decide) (Or.inl (by decide))) (qm_gk g49567 (by decide) (Or.inr rfl)) (qm_ge _ _ _) (by omega) hI49592 hF49594 ((hG49593.1 86 6 (by decide)).trans ((hk49574).trans rfl))
                    · skip
                      refine qr_bipush 82 rfl (by decide) rfl ?_
                      refine qr_iload 84 rfl g49567 rfl ?_
                      refine qr_imul 85 rfl rfl ?_
                      refine qr_iload 87 rfl g49568 rfl ?_
                      refine qr_iadd 88 rfl rfl ?_
                      refine qr_retI rfl rfl (by decide) (by decide) ?_
                      exact ⟨_, _, rfl, hI49592, hF49594, ((100 * u44582) + u49569), rfl, by omega, by omega⟩
        exact hL49576 ((32 - 0 + 1 : Int)).toNat _ 0 σ44583 α44584 (by omega) (qm_gk g44578 (by decide) (Or.inl (by decide))) (qm_gk g44579 (by decide) (Or.inl (by decide))) (qm_gk g44580 (by decide) (Or.inl (by decide))) (qm_gk g44581 (by decide) (Or.inr rfl)) (qm_ge _ _ _) (by omega) hI44585 hF44586 (rfl)
  exact hL44588 ((32 - 0 + 1 : Int)).toNat _ 0 σ α (by omega) rfl rfl rfl rfl (by omega) hI hF0

set_option maxHeartbeats 4000000 in
set_option maxRecDepth 20000 in
/-- OneRoofModel.goesOn -/
theorem sf_245_86 {L : Nat} {xs : Nat → Int} {vb : Bool} {d : Nat} {σ α : Nat → Nat → Int} {κ : Nat → Option Nat} {ρ : Nat} {x1 : Int} {x2 : Int} {x3 : Int} {x4 : Int} (hI : qI σ α κ ρ) (r1 : 0 ≤ x1 ∧ x1 ≤ 3131) (r2 : (-9223372036854775808) ≤ x2 ∧ x2 ≤ 9223372036854775807) (r3 : (-2147483648) ≤ x3 ∧ x3 ≤ 2147483647) (r4 : 0 ≤ x4 ∧ x4 ≤ 1) (p0 : 1 ≤ σ 86 6) (p1 : x1 / 100 ≤ 31 ∧ x1 % 100 ≤ 31) : qm_T (qe L xs vb) (d + 48) 245 [.ref 86, .int (qz x1), .long (ql x2), .int (qz x3), .int (qz x4)] (qw σ α κ ρ) (fun r w' => ∃ σ' α', w' = qw σ' α' κ ρ ∧ qI σ' α' κ ρ ∧ qFr [(86, 4), (86, 5), (86, 10), (86, 15), (86, 23), (86, 29), (86, 30), (86, 35), (86, 36), (86, 37), (86, 38), (86, 39), (86, 50), (86, 51)] [87, 88, 89, 90, 96, 109, 115, 116] σ α σ' α' ∧ r = none) := by
  refine qr_start (d := d + 47) qv_e245 (Nat.le_of_ble_eq_true rfl) ?_
  show qr_W (qe L xs vb) (d + 47) qx_e245 _ (0, [(0, .ref 86), (1, .int (qz x1)), (2, .long (ql x2)), (4, .int (qz x3)), (5, .int (qz x4))], [], _, 0, 0)
  have hF0 := qFr_rf [(86, 4), (86, 5), (86, 10), (86, 15), (86, 23), (86, 29), (86, 30), (86, 35), (86, 36), (86, 37), (86, 38), (86, 39), (86, 50), (86, 51)] [87, 88, 89, 90, 96, 109, 115, 116] σ α
  have hz86_6 : 0 ≤ σ 86 6 ∧ σ 86 6 ≤ 32 := hI.1 86 6
  refine qr_aload_n 1 rfl rfl rfl ?_
  refine qr_iconst 2 rfl rfl ?_
  refine qr_put 5 rfl (by decide) rfl (Nat.le_of_ble_eq_true rfl) (Nat.le_of_ble_eq_true rfl) (Or.inl rfl) (qr_fitI rfl _) rfl ?_
  refine qy_wS (qw_s σ 86 50 0) rfl (fun σ1 e2 => ?_)
  have hI3 : qI σ1 α κ ρ := by rw [e2]; exact qI_s hI 86 50 rfl (show 0 ≤ 0 ∧ 0 ≤ 31 by omega)
  have hF4 : qFr [(86, 4), (86, 5), (86, 10), (86, 15), (86, 23), (86, 29), (86, 30), (86, 35), (86, 36), (86, 37), (86, 38), (86, 39), (86, 50), (86, 51)] [87, 88, 89, 90, 96, 109, 115, 116] σ α σ1 α := by rw [e2]; exact qFr_s hF0 86 50 _ (by decide)
  refine qr_iload_n 6 rfl rfl rfl ?_
  refine qr_istore _ 8 rfl (by decide) rfl rfl ?_
  have hL141 : ∀ (n : Nat) (ls : qm_L) (u133 : Int) (σ134 α135 : Nat → Nat → Int), 31 - σ134 86 50 < (n : Int) → qm_get ls 0 = some (.ref 86) → qm_get ls 2 = some (.long (ql x2)) → qm_get ls 4 = some (.int (qz x3)) → qm_get ls 5 = some (.int (qz x4)) → qm_get ls 6 = some (.int (qz u133)) → ((-1) ≤ u133 ∧ u133 ≤ 3131) → qI σ134 α135 κ ρ → qFr [(86, 4), (86, 5), (86, 10), (86, 15), (86, 23), (86, 29), (86, 30), (86, 35), (86, 36), (86, 37), (86, 38), (86, 39), (86, 50), (86, 51)] [87, 88, 89, 90, 96, 109, 115, 116] σ α σ134 α135 → σ134 86 6 = (σ 86 6) → (u133 = -1 ∨ (0 ≤ u133 ∧ u133 / 100 ≤ 31 ∧ u133 % 100 ≤ 31 ∧ σ134 86 50 ≤ 30)) → qr_W (qe L xs vb) (d + 47) qx_e245 (fun r w' => ∃ σ' α', w' = qw σ' α' κ ρ ∧ qI σ' α' κ ρ ∧ qFr [(86, 4), (86, 5), (86, 10), (86, 15), (86, 23), (86, 29), (86, 30), (86, 35), (86, 36), (86, 37), (86, 38), (86, 39), (86, 50), (86, 51)] [87, 88, 89, 90, 96, 109, 115, 116] σ α σ' α' ∧ r = none) (8, ls, [], qw σ134 α135 κ ρ, 0, 0) := by
    intro n
    induction n with
    | zero => intro ls u133 σ134 α135 hm g128 g129 g130 g131 g132 hf139 hI136 hF137 hk138 hx140; exact False.elim (by omega)
    | succ n ih142 =>
      intro ls u133 σ134 α135 hm g128 g129 g130 g131 g132 hf139 hI136 hF137 hk138 hx140
      have hs143 : 0 ≤ σ134 86 50 ∧ σ134 86 50 ≤ 31 := hI136.1 86 50
      refine qr_iload 10 rfl g132 rfl ?_
      refine qr_if_lt 56 13 rfl rfl rfl (by omega) (fun h144 => ?_) (fun h144 => ?_)
      · skip
        refine qr_aload_n 57 rfl g128 rfl ?_
        refine qr_lload_n 58 rfl g129 rfl ?_
        refine qr_aload_n 59 rfl g128 rfl ?_
        refine qr_get 62 rfl rfl rfl (by decide) rfl ?_
        have hs145 : (-9223372036854775808) ≤ σ134 86 10 ∧ σ134 86 10 ≤ 9223372036854775807 := hI136.1 86 10
        refine qr_ldc2 (-1) 65 rfl (by decide) rfl ?_
        refine qr_lxor 66 rfl rfl ?_
        refine qy_canl (fun v146 hv146 => ?_)
        refine qr_land 67 rfl rfl ?_
        refine qy_canl (fun v147 hv147 => ?_)
        refine qr_put 70 rfl (by decide) rfl (Nat.le_of_ble_eq_true rfl) (Nat.le_of_ble_eq_true rfl) (Or.inl rfl) (qr_fitL rfl _) rfl ?_
        refine qy_wS (qw_s σ134 86 51 v147) rfl (fun σ148 e149 => ?_)
        have hI150 : qI σ148 α135 κ ρ := by rw [e149]; exact qI_s hI136 86 51 rfl (show (-9223372036854775808) ≤ v147 ∧ v147 ≤ 9223372036854775807 by omega)
        have hF151 : qFr [(86, 4), (86, 5), (86, 10), (86, 15), (86, 23), (86, 29), (86, 30), (86, 35), (86, 36), (86, 37), (86, 38), (86, 39), (86, 50), (86, 51)] [87, 88, 89, 90, 96, 109, 115, 116] σ α σ148 α135 := by rw [e149]; exact qFr_s hF137 86 51 _ (by decide)
        refine qr_retV rfl rfl (by decide) (by decide) ?_
        exact ⟨_, _, rfl, hI150, hF151, rfl⟩
      · skip
        refine qr_aload_n 14 rfl g128 rfl ?_
        refine qr_iload 16 rfl g132 rfl ?_
        refine qr_bipush 18 rfl (by decide) rfl ?_
        refine qr_idiv 19 rfl (by omega) (by omega) rfl ?_
        refine qr_iload 21 rfl g132 rfl ?_
        refine qr_bipush 23 rfl (by decide) rfl ?_
        refine qr_irem 24 rfl (by omega) (by omega) rfl ?_
        refine qr_iload 26 rfl g130 rfl ?_
        refine qr_iload 28 rfl g131 rfl ?_
        refine qr_callN 31 rfl rfl rfl (sf_246_86 (d := d + 43) hI136 (by omega) (by omega) (by omega) (by omega) (by omega) (by omega)) ?_
        rintro _ _ ⟨σ153, α154, rfl, hI155, hG156, hw152, rfl⟩
        have hF157 : qFr [(86, 4), (86, 5), (86, 10), (86, 15), (86, 23), (86, 29), (86, 30), (86, 35), (86, 36), (86, 37), (86, 38), (86, 39), (86, 50), (86, 51)] [87, 88, 89, 90, 96, 109, 115, 116] σ α σ153 α154 := qFr_t hF137 hG156 (by decide) (by decide)
        have hs158 : 0 ≤ σ153 86 50 ∧ σ153 86 50 ≤ 31 := hI155.1 86 50
        show qr_W (qe L xs vb) (d + 47) qx_e245 _ (31, _, [], qw σ153 α154 κ ρ, 0, 0)
        refine qr_aload_n 32 rfl g128 rfl ?_
        refine qr_get 35 rfl rfl rfl (by decide) rfl ?_
        refine qr_bipush 37 rfl (by decide) rfl ?_
        refine qr_icmp_ne 44 40 rfl rfl rfl (by omega) (by omega) (fun h159 => ?_) (fun h159 => ?_)
        · skip
          refine qr_aload_n 45 rfl g128 rfl ?_
          refine qr_lload_n 46 rfl g129 rfl ?_
          refine qr_iload 48 rfl g130 rfl ?_
          refine qr_callN 51 rfl rfl rfl (sf_247_86 (d := d + 0) hI155 (by omega) (by omega)) ?_
          rintro _ _ ⟨σ162, α163, rfl, hI164, hG165, v160, rfl, hv160, hp161⟩
          have hF166 : qFr [(86, 4), (86, 5), (86, 10), (86, 15), (86, 23), (86, 29), (86, 30), (86, 35), (86, 36), (86, 37), (86, 38), (86, 39), (86, 50), (86, 51)] [87, 88, 89, 90, 96, 109, 115, 116] σ α σ162 α163 := qFr_t hF157 hG165 (by decide) (by decide)
          show qr_W (qe L xs vb) (d + 47) qx_e245 _ (51, _, [.int (qz v160)], qw σ162 α163 κ ρ, 0, 0)
          refine qr_istore _ 53 rfl (by decide) rfl rfl ?_
          refine qr_goto 8 rfl rfl ?_
          exact ih142 _ v160 σ162 α163 (by omega) (qm_gk g128 (by decide) (Or.inl (by decide))) (qm_gk g129 (by decide) (Or.inl (by decide))) (qm_gk g130 (by decide) (Or.inl (by decide))) (qm_gk g131 (by decide) (Or.inr rfl)) (qm_ge _ _ _) (by omega) hI164 hF166 ((hG165.1 86 6 (by decide)).trans ((hG156.1 86 6 (by decide)).trans ((hk138).trans rfl))) (by have hw0 : σ162 86 50 = (σ153 86 50) := (hG165.1 86 50 (by decide)).trans rfl; omega)
        · skip
          refine qr_iconst 41 rfl rfl ?_
          refine qr_goto 51 rfl rfl ?_
          refine qr_istore _ 53 rfl (by decide) rfl rfl ?_
          refine qr_goto 8 rfl rfl ?_
          exact ih142 _ (-1) σ153 α154 (by omega) (qm_gk g128 (by decide) (Or.inl (by decide))) (qm_gk g129 (by decide) (Or.inl (by decide))) (qm_gk g130 (by decide) (Or.inl (by decide))) (qm_gk g131 (by decide) (Or.inr rfl)) (qm_ge _ _ _) (by omega) hI155 hF157 ((hG156.1 86 6 (by decide)).trans ((hk138).trans rfl)) (by have hw0 : σ153 86 50 = (σ153 86 50) := rfl; omega)
  exact hL141 ((31 - σ1 86 50 + 1 : Int)).toNat _ x1 σ1 α (by omega) rfl rfl rfl rfl rfl (by omega) hI3 hF4 ((congrFun (congrFun e2 86) 6).trans rfl) (by have hw0 : σ1 86 50 = 0 := (congrFun (congrFun e2 86) 50).trans rfl; omega)

set_option maxHeartbeats 4000000 in
set_option maxRecDepth 20000 in
/-- OneRoofModel.strike -/
theorem sf_244_86 {L : Nat} {xs : Nat → Int} {vb : Bool} {d : Nat} {σ α : Nat → Nat → Int} {κ : Nat → Option Nat} {ρ : Nat} {x1 : Int} {x2 : Int} {x3 : Int} {x4 : Int} (hI : qI σ α κ ρ) (r1 : (-2147483648) ≤ x1 ∧ x1 ≤ 2147483647) (r2 : (-9223372036854775808) ≤ x2 ∧ x2 ≤ 9223372036854775807) (r3 : (-2147483648) ≤ x3 ∧ x3 ≤ 2147483647) (r4 : (-2147483648) ≤ x4 ∧ x4 ≤ 2147483647) : qm_T (qe L xs vb) (d + 49) 244 [.ref 86, .int (qz x1), .long (ql x2), .int (qz x3), .int (qz x4)] (qw σ α κ ρ) (fun r w' => ∃ σ' α', w' = qw σ' α' κ ρ ∧ qI σ' α' κ ρ ∧ qFr [(86, 4), (86, 5), (86, 10), (86, 15), (86, 23), (86, 29), (86, 30), (86, 35), (86, 36), (86, 37), (86, 38), (86, 39), (86, 50), (86, 51)] [87, 88, 89, 90, 96, 109, 115, 116] σ α σ' α' ∧ ∃ v : Int, r = some (.int (qz v)) ∧ ((-2147483648) ≤ v ∧ v ≤ 2147483647)) := by
  refine qr_start (d := d + 48) qv_e244 (Nat.le_of_ble_eq_true rfl) ?_
  show qr_W (qe L xs vb) (d + 48) qx_e244 _ (0, [(0, .ref 86), (1, .int (qz x1)), (2, .long (ql x2)), (4, .int (qz x3)), (5, .int (qz x4))], [], _, 0, 0)
  have hF0 := qFr_rf [(86, 4), (86, 5), (86, 10), (86, 15), (86, 23), (86, 29), (86, 30), (86, 35), (86, 36), (86, 37), (86, 38), (86, 39), (86, 50), (86, 51)] [87, 88, 89, 90, 96, 109, 115, 116] σ α
  refine qr_aload_n 1 rfl rfl rfl ?_
  refine qr_iload_n 2 rfl rfl rfl ?_
  refine qr_callN 5 rfl rfl rfl (sf_190_86 (d := d + 45) hI (by omega)) ?_
  have hs3 : 0 ≤ σ 86 6 ∧ σ 86 6 ≤ 32 := hI.1 86 6
  rintro _ _ ⟨rfl, v1, rfl, hv1, hp2⟩
  show qr_W (qe L xs vb) (d + 48) qx_e244 _ (5, _, [.int (qz v1)], qw σ α κ ρ, 0, 0)
  refine qr_if_eq 35 8 rfl rfl rfl (by omega) (fun h4 => ?_) (fun h4 => ?_)
  · skip
    refine qr_iconst 36 rfl rfl ?_
    refine qr_retI rfl rfl (by decide) (by decide) ?_
    exact ⟨_, _, rfl, hI, hF0, (-1), rfl, by omega⟩
  · skip
    refine qr_aload_n 9 rfl rfl rfl ?_
    refine qr_lload_n 10 rfl rfl rfl ?_
    refine qr_callN 13 rfl rfl rfl (sf_224_86 (d := d + 47) hI (by omega)) ?_
    rintro _ _ ⟨rfl, v5, rfl, hv5⟩
    show qr_W (qe L xs vb) (d + 48) qx_e244 _ (13, _, [.int (qz v5)], qw σ α κ ρ, 0, 0)
    refine qr_if_eq 35 16 rfl rfl rfl (by omega) (fun h6 => ?_) (fun h6 => ?_)
    · skip
      refine qr_iconst 36 rfl rfl ?_
      refine qr_retI rfl rfl (by decide) (by decide) ?_
      exact ⟨_, _, rfl, hI, hF0, (-1), rfl, by omega⟩
    · skip
      refine qr_iload 18 rfl rfl rfl ?_
      refine qr_callN 21 rfl rfl rfl (sf_191 (d := d + 46) hI (by omega)) ?_
      rintro _ _ ⟨rfl, v7, rfl, hv7, hp8⟩
      show qr_W (qe L xs vb) (d + 48) qx_e244 _ (21, _, [.int (qz v7)], qw σ α κ ρ, 0, 0)
      refine qr_if_eq 35 24 rfl rfl rfl (by omega) (fun h9 => ?_) (fun h9 => ?_)
      · skip
        refine qr_iconst 36 rfl rfl ?_
        refine qr_retI rfl rfl (by decide) (by decide) ?_
        exact ⟨_, _, rfl, hI, hF0, (-1), rfl, by omega⟩
      · skip
        refine qr_iload 26 rfl rfl rfl ?_
        refine qr_i2l 27 rfl (by omega) rfl ?_
        refine qr_lconst 28 rfl rfl ?_
        refine qy_vl 0 rfl ?_
        refine qr_lconst 29 rfl rfl ?_
        refine qy_vl 1 rfl ?_
        refine qr_callN 32 rfl rfl rfl (sf_175 (d := d + 47) hI (by omega) (by omega) (by omega)) ?_
        rintro _ _ ⟨rfl, v10, rfl, hv10, hp11⟩
        show qr_W (qe L xs vb) (d + 48) qx_e244 _ (32, _, [.int (qz v10)], qw σ α κ ρ, 0, 0)
        refine qr_if_ne 37 35 rfl rfl rfl (by omega) (fun h12 => ?_) (fun h12 => ?_)
        · skip
          refine qr_lload_n 38 rfl rfl rfl ?_
          refine qr_aload_n 39 rfl rfl rfl ?_
          refine qr_get 42 rfl rfl rfl (by decide) rfl ?_
          have hs13 : (-9223372036854775808) ≤ σ 86 10 ∧ σ 86 10 ≤ 9223372036854775807 := hI.1 86 10
          refine qr_ldc2 (-1) 45 rfl (by decide) rfl ?_
          refine qr_lxor 46 rfl rfl ?_
          refine qy_canl (fun v14 hv14 => ?_)
          refine qr_land 47 rfl rfl ?_
          refine qy_canl (fun v15 hv15 => ?_)
          refine qr_lstore _ 49 rfl (by decide) rfl rfl ?_
          refine qr_lload 51 rfl rfl rfl ?_
          refine qr_iload_n 52 rfl rfl rfl ?_
          refine qr_bipush 54 rfl (by decide) rfl ?_
          refine qr_idiv 55 rfl (by omega) (by omega) rfl ?_
          refine qr_callN 58 rfl rfl rfl (sf_225 (d := d + 47) hI (by omega) (by omega)) ?_
          rintro _ _ ⟨rfl, v16, rfl, hv16⟩
          show qr_W (qe L xs vb) (d + 48) qx_e244 _ (58, _, [.int (qz v16)], qw σ α κ ρ, 0, 0)
          refine qr_if_eq 73 61 rfl rfl rfl (by omega) (fun h17 => ?_) (fun h17 => ?_)
          · skip
            refine qr_iconst 74 rfl rfl ?_
            refine qr_retI rfl rfl (by decide) (by decide) ?_
            exact ⟨_, _, rfl, hI, hF0, (-1), rfl, by omega⟩
          · skip
            refine qr_lload 63 rfl rfl rfl ?_
            refine qr_iload_n 64 rfl rfl rfl ?_
            refine qr_bipush 66 rfl (by decide) rfl ?_
            refine qr_irem 67 rfl (by omega) (by omega) rfl ?_
            refine qr_callN 70 rfl rfl rfl (sf_225 (d := d + 47) hI (by omega) (by omega)) ?_
            rintro _ _ ⟨rfl, v18, rfl, hv18⟩
            show qr_W (qe L xs vb) (d + 48) qx_e244 _ (70, _, [.int (qz v18)], qw σ α κ ρ, 0, 0)
            refine qr_if_ne 75 73 rfl rfl rfl (by omega) (fun h19 => ?_) (fun h19 => ?_)
            · skip
              refine qr_aload_n 76 rfl rfl rfl ?_
              refine qr_get 79 rfl rfl rfl (by decide) rfl ?_
              refine qr_lstore _ 81 rfl (by decide) rfl rfl ?_
              refine qr_aload_n 82 rfl rfl rfl ?_
              refine qr_iload_n 83 rfl rfl rfl ?_
              refine qr_lload 85 rfl rfl rfl ?_
              refine qr_iload 87 rfl rfl rfl ?_
              refine qr_iload 89 rfl rfl rfl ?_
              refine qr_iconst 90 rfl rfl ?_
              have hJ25 : ∀ (ls : qm_L) (u23 : Int), qm_get ls 0 = some (.ref 86) → qm_get ls 5 = some (.int (qz x4)) → qm_get ls 8 = some (.long (ql (σ 86 10))) → (0 ≤ u23 ∧ u23 ≤ 1) → qr_W (qe L xs vb) (d + 48) qx_e244 (fun r w' => ∃ σ' α', w' = qw σ' α' κ ρ ∧ qI σ' α' κ ρ ∧ qFr [(86, 4), (86, 5), (86, 10), (86, 15), (86, 23), (86, 29), (86, 30), (86, 35), (86, 36), (86, 37), (86, 38), (86, 39), (86, 50), (86, 51)] [87, 88, 89, 90, 96, 109, 115, 116] σ α σ' α' ∧ ∃ v : Int, r = some (.int (qz v)) ∧ ((-2147483648) ≤ v ∧ v ≤ 2147483647)) (98, ls, [.int (qz u23), .int (qz x3), .long (ql v15), .int (qz x1), .ref 86], qw σ α κ ρ, 0, 0) := by
                intro ls u23 g20 g21 g22 hf24
                refine qr_callN 101 rfl rfl rfl (sf_245_86 (d := d + 0) hI (by omega) (by omega) (by omega) (by omega) (by omega) (by omega)) ?_
                rintro _ _ ⟨σ26, α27, rfl, hI28, hG29, rfl⟩
                have hF30 : qFr [(86, 4), (86, 5), (86, 10), (86, 15), (86, 23), (86, 29), (86, 30), (86, 35), (86, 36), (86, 37), (86, 38), (86, 39), (86, 50), (86, 51)] [87, 88, 89, 90, 96, 109, 115, 116] σ α σ26 α27 := qFr_t hF0 hG29 (by decide) (by decide)
                show qr_W (qe L xs vb) (d + 48) qx_e244 _ (101, _, [], qw σ26 α27 κ ρ, 0, 0)
                refine qr_iload 103 rfl g21 rfl ?_
                refine qr_if_ne 117 106 rfl rfl rfl (by omega) (fun h31 => ?_) (fun h31 => ?_)
                · skip
                  refine qr_aload_n 118 rfl g20 rfl ?_
                  refine qr_get 121 rfl rfl rfl (by decide) rfl ?_
                  have hs32 : 0 ≤ σ26 86 50 ∧ σ26 86 50 ≤ 31 := hI28.1 86 50
                  refine qr_retI rfl rfl (by decide) (by decide) ?_
                  exact ⟨_, _, rfl, hI28, hF30, (σ26 86 50), rfl, by omega⟩
                · skip
                  refine qr_aload_n 107 rfl g20 rfl ?_
                  refine qr_lload 109 rfl g22 rfl ?_
                  refine qr_put 112 rfl (by decide) rfl (Nat.le_of_ble_eq_true rfl) (Nat.le_of_ble_eq_true rfl) (Or.inl rfl) (qr_fitL rfl _) rfl ?_
                  refine qy_wS (qw_s σ26 86 10 (σ 86 10)) rfl (fun σ33 e34 => ?_)
                  have hI35 : qI σ33 α27 κ ρ := by rw [e34]; exact qI_s hI28 86 10 rfl (show (-9223372036854775808) ≤ (σ 86 10) ∧ (σ 86 10) ≤ 9223372036854775807 by omega)
                  have hF36 : qFr [(86, 4), (86, 5), (86, 10), (86, 15), (86, 23), (86, 29), (86, 30), (86, 35), (86, 36), (86, 37), (86, 38), (86, 39), (86, 50), (86, 51)] [87, 88, 89, 90, 96, 109, 115, 116] σ α σ33 α27 := by rw [e34]; exact qFr_s hF30 86 10 _ (by decide)
                  refine qr_aload_n 113 rfl g20 rfl ?_
                  refine qr_lconst 114 rfl rfl ?_
                  refine qy_vl 0 rfl ?_
                  refine qr_put 117 rfl (by decide) rfl (Nat.le_of_ble_eq_true rfl) (Nat.le_of_ble_eq_true rfl) (Or.inl rfl) (qr_fitL rfl _) rfl ?_
                  refine qy_wS (qw_s σ33 86 29 0) rfl (fun σ37 e38 => ?_)
                  have hI39 : qI σ37 α27 κ ρ := by rw [e38]; exact qI_s hI35 86 29 rfl (show (-9223372036854775808) ≤ 0 ∧ 0 ≤ 9223372036854775807 by omega)
                  have hF40 : qFr [(86, 4), (86, 5), (86, 10), (86, 15), (86, 23), (86, 29), (86, 30), (86, 35), (86, 36), (86, 37), (86, 38), (86, 39), (86, 50), (86, 51)] [87, 88, 89, 90, 96, 109, 115, 116] σ α σ37 α27 := by rw [e38]; exact qFr_s hF36 86 29 _ (by decide)
                  refine qr_aload_n 118 rfl g20 rfl ?_
                  refine qr_get 121 rfl rfl rfl (by decide) rfl ?_
                  have hs41 : 0 ≤ σ37 86 50 ∧ σ37 86 50 ≤ 31 := hI39.1 86 50
                  refine qr_retI rfl rfl (by decide) (by decide) ?_
                  exact ⟨_, _, rfl, hI39, hF40, (σ37 86 50), rfl, by omega⟩
              refine qr_icmp_ne 97 93 rfl rfl rfl (by omega) (by omega) (fun h42 => ?_) (fun h42 => ?_)
              · skip
                refine qr_iconst 98 rfl rfl ?_
                exact hJ25 _ 0 rfl rfl rfl (by omega)
              · skip
                refine qr_iconst 94 rfl rfl ?_
                refine qr_goto 98 rfl rfl ?_
                exact hJ25 _ 1 rfl rfl rfl (by omega)
            · skip
              refine qr_iconst 74 rfl rfl ?_
              refine qr_retI rfl rfl (by decide) (by decide) ?_
              exact ⟨_, _, rfl, hI, hF0, (-1), rfl, by omega⟩
        · skip
          refine qr_iconst 36 rfl rfl ?_
          refine qr_retI rfl rfl (by decide) (by decide) ?_
          exact ⟨_, _, rfl, hI, hF0, (-1), rfl, by omega⟩

set_option maxHeartbeats 4000000 in
set_option maxRecDepth 20000 in
/-- OneRoofModel.worst -/
theorem sf_251_86 {L : Nat} {xs : Nat → Int} {vb : Bool} {d : Nat} {σ α : Nat → Nat → Int} {κ : Nat → Option Nat} {ρ : Nat} {x1 : Int} {x2 : Int} (hI : qI σ α κ ρ) (r1 : (-9223372036854775808) ≤ x1 ∧ x1 ≤ 9223372036854775807) (r2 : (-2147483648) ≤ x2 ∧ x2 ≤ 2147483647) : qm_T (qe L xs vb) (d + 49) 251 [.ref 86, .long (ql x1), .int (qz x2)] (qw σ α κ ρ) (fun r w' => ∃ σ' α', w' = qw σ' α' κ ρ ∧ qI σ' α' κ ρ ∧ qFr [(86, 4), (86, 5), (86, 10), (86, 15), (86, 23), (86, 29), (86, 30), (86, 35), (86, 36), (86, 37), (86, 38), (86, 39), (86, 50), (86, 51)] [87, 88, 89, 90, 96, 109, 115, 116, 117, 118] σ α σ' α' ∧ ∃ v : Int, r = some (.int (qz v)) ∧ ((-2147483648) ≤ v ∧ v ≤ 2147483647)) := by
  refine qr_start (d := d + 48) qv_e251 (Nat.le_of_ble_eq_true rfl) ?_
  show qr_W (qe L xs vb) (d + 48) qx_e251 _ (0, [(0, .ref 86), (1, .long (ql x1)), (3, .int (qz x2))], [], _, 0, 0)
  have hF0 := qFr_rf [(86, 4), (86, 5), (86, 10), (86, 15), (86, 23), (86, 29), (86, 30), (86, 35), (86, 36), (86, 37), (86, 38), (86, 39), (86, 50), (86, 51)] [87, 88, 89, 90, 96, 109, 115, 116, 117, 118] σ α
  refine qr_aload_n 1 rfl rfl rfl ?_
  refine qr_lload_n 2 rfl rfl rfl ?_
  refine qr_callN 5 rfl rfl rfl (sf_224_86 (d := d + 47) hI (by omega)) ?_
  rintro _ _ ⟨rfl, v1, rfl, hv1⟩
  show qr_W (qe L xs vb) (d + 48) qx_e251 _ (5, _, [.int (qz v1)], qw σ α κ ρ, 0, 0)
  refine qr_if_eq 15 8 rfl rfl rfl (by omega) (fun h2 => ?_) (fun h2 => ?_)
  · skip
    refine qr_iconst 16 rfl rfl ?_
    refine qr_retI rfl rfl (by decide) (by decide) ?_
    exact ⟨_, _, rfl, hI, hF0, (-1), rfl, by omega⟩
  · skip
    refine qr_iload_n 9 rfl rfl rfl ?_
    refine qr_callN 12 rfl rfl rfl (sf_191 (d := d + 46) hI (by omega)) ?_
    rintro _ _ ⟨rfl, v3, rfl, hv3, hp4⟩
    show qr_W (qe L xs vb) (d + 48) qx_e251 _ (12, _, [.int (qz v3)], qw σ α κ ρ, 0, 0)
    refine qr_if_ne 17 15 rfl rfl rfl (by omega) (fun h5 => ?_) (fun h5 => ?_)
    · skip
      refine qr_lload_n 18 rfl rfl rfl ?_
      refine qr_aload_n 19 rfl rfl rfl ?_
      refine qr_get 22 rfl rfl rfl (by decide) rfl ?_
      have hs6 : (-9223372036854775808) ≤ σ 86 10 ∧ σ 86 10 ≤ 9223372036854775807 := hI.1 86 10
      refine qr_ldc2 (-1) 25 rfl (by decide) rfl ?_
      refine qr_lxor 26 rfl rfl ?_
      refine qy_canl (fun v7 hv7 => ?_)
      refine qr_land 27 rfl rfl ?_
      refine qy_canl (fun v8 hv8 => ?_)
      refine qr_lstore _ 29 rfl (by decide) rfl rfl ?_
      refine qr_aload_n 30 rfl rfl rfl ?_
      refine qr_get 33 rfl rfl rfl (by decide) rfl ?_
      refine qr_lstore _ 35 rfl (by decide) rfl rfl ?_
      refine qr_aload_n 36 rfl rfl rfl ?_
      refine qr_get 39 rfl rfl rfl (by decide) rfl ?_
      have hs9 : (-9223372036854775808) ≤ σ 86 51 ∧ σ 86 51 ≤ 9223372036854775807 := hI.1 86 51
      refine qr_lstore _ 41 rfl (by decide) rfl rfl ?_
      refine qr_aload_n 42 rfl rfl rfl ?_
      refine qr_get 45 rfl rfl rfl (by decide) rfl ?_
      have hs10 : 0 ≤ σ 86 50 ∧ σ 86 50 ≤ 31 := hI.1 86 50
      refine qr_istore _ 47 rfl (by decide) rfl rfl ?_
      refine qr_iconst 48 rfl rfl ?_
      refine qr_istore _ 50 rfl (by decide) rfl rfl ?_
      have hL236608 : ∀ (n : Nat) (ls : qm_L) (u236602 : Int) (α236604 : Nat → Nat → Int), 31 - u236602 < (n : Int) → qm_get ls 0 = some (.ref 86) → qm_get ls 3 = some (.int (qz x2)) → qm_get ls 4 = some (.long (ql v8)) → qm_get ls 6 = some (.long (ql (σ 86 10))) → qm_get ls 8 = some (.long (ql (σ 86 51))) → qm_get ls 10 = some (.int (qz (σ 86 50))) → qm_get ls 11 = some (.int (qz u236602)) → (0 ≤ u236602 ∧ u236602 ≤ 31) → qI σ α236604 κ ρ → qFr [(86, 4), (86, 5), (86, 10), (86, 15), (86, 23), (86, 29), (86, 30), (86, 35), (86, 36), (86, 37), (86, 38), (86, 39), (86, 50), (86, 51)] [87, 88, 89, 90, 96, 109, 115, 116, 117, 118] σ α σ α236604 → qr_W (qe L xs vb) (d + 48) qx_e251 (fun r w' => ∃ σ' α', w' = qw σ' α' κ ρ ∧ qI σ' α' κ ρ ∧ qFr [(86, 4), (86, 5), (86, 10), (86, 15), (86, 23), (86, 29), (86, 30), (86, 35), (86, 36), (86, 37), (86, 38), (86, 39), (86, 50), (86, 51)] [87, 88, 89, 90, 96, 109, 115, 116, 117, 118] σ α σ' α' ∧ ∃ v : Int, r = some (.int (qz v)) ∧ ((-2147483648) ≤ v ∧ v ≤ 2147483647)) (50, ls, [], qw σ α236604 κ ρ, 0, 0) := by
        intro n
        induction n with
        | zero => intro ls u236602 α236604 hm g236595 g236596 g236597 g236598 g236599 g236600 g236601 hf236607 hI236605 hF236606; exact False.elim (by omega)
        | succ n ih236609 =>
          intro ls u236602 α236604 hm g236595 g236596 g236597 g236598 g236599 g236600 g236601 hf236607 hI236605 hF236606
          refine qr_iload 52 rfl g236601 rfl ?_
          refine qr_bipush 54 rfl (by decide) rfl ?_
          refine qr_icmp_ge 91 57 rfl rfl rfl (by omega) (by omega) (fun h236622 => ?_) (fun h236622 => ?_)
          · skip
            refine qr_bipush 93 rfl (by decide) rfl ?_
            refine qr_istore _ 95 rfl (by decide) rfl rfl ?_
            refine qr_bipush 97 rfl (by decide) rfl ?_
            refine qr_istore _ 99 rfl (by decide) rfl rfl ?_
            refine qr_iconst 100 rfl rfl ?_
            refine qr_istore _ 102 rfl (by decide) rfl rfl ?_
            have hL292021 : ∀ (n : Nat) (ls : qm_L) (u292009 u292011 u292013 : Int) (σ292014 α292015 : Nat → Nat → Int), 32 - u292013 < (n : Int) → qm_get ls 0 = some (.ref 86) → qm_get ls 3 = some (.int (qz x2)) → qm_get ls 4 = some (.long (ql v8)) → qm_get ls 6 = some (.long (ql (σ 86 10))) → qm_get ls 8 = some (.long (ql (σ 86 51))) → qm_get ls 10 = some (.int (qz (σ 86 50))) → qm_get ls 11 = some (.int (qz u292009)) → qm_get ls 12 = some (.int (qz u292011)) → qm_get ls 13 = some (.int (qz u292013)) → ((-2) ≤ u292009 ∧ u292009 ≤ 3131) → ((-2147483648) ≤ u292011 ∧ u292011 ≤ 2147483647) → (0 ≤ u292013 ∧ u292013 ≤ 32) → qI σ292014 α292015 κ ρ → qFr [(86, 4), (86, 5), (86, 10), (86, 15), (86, 23), (86, 29), (86, 30), (86, 35), (86, 36), (86, 37), (86, 38), (86, 39), (86, 50), (86, 51)] [87, 88, 89, 90, 96, 109, 115, 116, 117, 118] σ α σ292014 α292015 → qr_W (qe L xs vb) (d + 48) qx_e251 (fun r w' => ∃ σ' α', w' = qw σ' α' κ ρ ∧ qI σ' α' κ ρ ∧ qFr [(86, 4), (86, 5), (86, 10), (86, 15), (86, 23), (86, 29), (86, 30), (86, 35), (86, 36), (86, 37), (86, 38), (86, 39), (86, 50), (86, 51)] [87, 88, 89, 90, 96, 109, 115, 116, 117, 118] σ α σ' α' ∧ ∃ v : Int, r = some (.int (qz v)) ∧ ((-2147483648) ≤ v ∧ v ≤ 2147483647)) (102, ls, [], qw σ292014 α292015 κ ρ, 0, 0) := by
              intro n
              induction n with
              | zero => intro ls u292009 u292011 u292013 σ292014 α292015 hm g292002 g292003 g292004 g292005 g292006 g292007 g292008 g292010 g292012 hf292018 hf292019 hf292020 hI292016 hF292017; exact False.elim (by omega)
              | succ n ih292022 =>
                intro ls u292009 u292011 u292013 σ292014 α292015 hm g292002 g292003 g292004 g292005 g292006 g292007 g292008 g292010 g292012 hf292018 hf292019 hf292020 hI292016 hF292017
                refine qr_iload 104 rfl g292012 rfl ?_
                refine qr_aload_n 105 rfl g292002 rfl ?_
                refine qr_get 108 rfl rfl rfl (by decide) rfl ?_
                have hs292023 : 0 ≤ σ292014 86 6 ∧ σ292014 86 6 ≤ 32 := hI292016.1 86 6
                refine qr_icmp_ge 223 111 rfl rfl rfl (by omega) (by omega) (fun h293747 => ?_) (fun h293747 => ?_)
                · skip
                  refine qr_aload_n 224 rfl g292002 rfl ?_
                  refine qr_lload 226 rfl g292006 rfl ?_
                  refine qr_put 229 rfl (by decide) rfl (Nat.le_of_ble_eq_true rfl) (Nat.le_of_ble_eq_true rfl) (Or.inl rfl) (qr_fitL rfl _) rfl ?_
                  refine qy_wS (qw_s σ292014 86 51 (σ 86 51)) rfl (fun σ293748 e293749 => ?_)
                  have hI293750 : qI σ293748 α292015 κ ρ := by rw [e293749]; exact qI_s hI292016 86 51 rfl (show (-9223372036854775808) ≤ (σ 86 51) ∧ (σ 86 51) ≤ 9223372036854775807 by omega)
                  have hF293751 : qFr [(86, 4), (86, 5), (86, 10), (86, 15), (86, 23), (86, 29), (86, 30), (86, 35), (86, 36), (86, 37), (86, 38), (86, 39), (86, 50), (86, 51)] [87, 88, 89, 90, 96, 109, 115, 116, 117, 118] σ α σ293748 α292015 := by rw [e293749]; exact qFr_s hF292017 86 51 _ (by decide)
                  refine qr_aload_n 230 rfl g292002 rfl ?_
                  refine qr_iload 232 rfl g292007 rfl ?_
                  refine qr_put 235 rfl (by decide) rfl (Nat.le_of_ble_eq_true rfl) (Nat.le_of_ble_eq_true rfl) (Or.inl rfl) (qr_fitI rfl _) rfl ?_
                  refine qy_wS (qw_s σ293748 86 50 (σ 86 50)) rfl (fun σ293752 e293753 => ?_)
                  have hI293754 : qI σ293752 α292015 κ ρ := by rw [e293753]; exact qI_s hI293750 86 50 rfl (show 0 ≤ (σ 86 50) ∧ (σ 86 50) ≤ 31 by omega)
                  have hF293755 : qFr [(86, 4), (86, 5), (86, 10), (86, 15), (86, 23), (86, 29), (86, 30), (86, 35), (86, 36), (86, 37), (86, 38), (86, 39), (86, 50), (86, 51)] [87, 88, 89, 90, 96, 109, 115, 116, 117, 118] σ α σ293752 α292015 := by rw [e293753]; exact qFr_s hF293751 86 50 _ (by decide)
                  refine qr_iconst 236 rfl rfl ?_
                  refine qr_istore _ 238 rfl (by decide) rfl rfl ?_
                  have hL293989 : ∀ (n : Nat) (ls : qm_L) (u293983 : Int) (α293985 : Nat → Nat → Int), 31 - u293983 < (n : Int) → qm_get ls 0 = some (.ref 86) → qm_get ls 11 = some (.int (qz u292009)) → qm_get ls 13 = some (.int (qz u293983)) → (0 ≤ u293983 ∧ u293983 ≤ 31) → qI σ293752 α293985 κ ρ → qFr [(86, 4), (86, 5), (86, 10), (86, 15), (86, 23), (86, 29), (86, 30), (86, 35), (86, 36), (86, 37), (86, 38), (86, 39), (86, 50), (86, 51)] [87, 88, 89, 90, 96, 109, 115, 116, 117, 118] σ α σ293752 α293985 → qr_W (qe L xs vb) (d + 48) qx_e251 (fun r w' => ∃ σ' α', w' = qw σ' α' κ ρ ∧ qI σ' α' κ ρ ∧ qFr [(86, 4), (86, 5), (86, 10), (86, 15), (86, 23), (86, 29), (86, 30), (86, 35), (86, 36), (86, 37), (86, 38), (86, 39), (86, 50), (86, 51)] [87, 88, 89, 90, 96, 109, 115, 116, 117, 118] σ α σ' α' ∧ ∃ v : Int, r = some (.int (qz v)) ∧ ((-2147483648) ≤ v ∧ v ≤ 2147483647)) (238, ls, [], qw σ293752 α293985 κ ρ, 0, 0) := by
                    intro n
                    induction n with
                    | zero => intro ls u293983 α293985 hm g293980 g293981 g293982 hf293988 hI293986 hF293987; exact False.elim (by omega)
                    | succ n ih293990 =>
                      intro ls u293983 α293985 hm g293980 g293981 g293982 hf293988 hI293986 hF293987
                      refine qr_iload 240 rfl g293982 rfl ?_
                      refine qr_bipush 242 rfl (by decide) rfl ?_
                      refine qr_icmp_ge 279 245 rfl rfl rfl (by omega) (by omega) (fun h293991 => ?_) (fun h293991 => ?_)
                      · skip
                        refine qr_iload 281 rfl g293981 rfl ?_
                        refine qr_retI rfl rfl (by decide) (by decide) ?_
                        exact ⟨_, _, rfl, hI293986, hF293987, u292009, rfl, by omega⟩
                      · skip
                        refine qr_aload_n 246 rfl g293980 rfl ?_
                        refine qr_get 249 rfl rfl rfl (by decide) rfl ?_
                        refine qr_iload 251 rfl g293982 rfl ?_
                        refine qr_aload_n 252 rfl g293980 rfl ?_
                        refine qr_get 255 rfl rfl rfl (by decide) rfl ?_
                        refine qr_iload 257 rfl g293982 rfl ?_
                        refine qr_iaload 258 rfl rfl (by omega) (by decide) rfl ?_
                        refine qr_topI (fun v293992 hv293992 => ?_)
                        have hs293993 : 0 ≤ v293992 ∧ v293992 ≤ 31 := by rw [hv293992]; exact hI293986.2.1 117 _ (show _ < 31 by omega)
                        refine qr_iastore 259 rfl (by decide) rfl (by omega) (by decide) rfl ?_
                        refine qy_wA (qw_r α293985 115 (qzu (α293985 115) (u293983 : Int).toNat v293992)) rfl (fun α293994 e293995 => ?_)
                        have hI293996 : qI σ293752 α293994 κ ρ := by rw [e293995]; exact qI_r hI293986 115 _ rfl (show 0 ≤ v293992 ∧ v293992 ≤ 31 by omega)
                        have hF293997 : qFr [(86, 4), (86, 5), (86, 10), (86, 15), (86, 23), (86, 29), (86, 30), (86, 35), (86, 36), (86, 37), (86, 38), (86, 39), (86, 50), (86, 51)] [87, 88, 89, 90, 96, 109, 115, 116, 117, 118] σ α σ293752 α293994 := by rw [e293995]; exact qFr_r hF293987 115 _ (by decide)
                        refine qr_aload_n 260 rfl g293980 rfl ?_
                        refine qr_get 263 rfl rfl rfl (by decide) rfl ?_
                        refine qr_iload 265 rfl g293982 rfl ?_
                        refine qr_aload_n 266 rfl g293980 rfl ?_
                        refine qr_get 269 rfl rfl rfl (by decide) rfl ?_
                        refine qr_iload 271 rfl g293982 rfl ?_
                        refine qr_iaload 272 rfl rfl (by omega) (by decide) rfl ?_
                        refine qr_topI (fun v293998 hv293998 => ?_)
                        have hs293999 : 0 ≤ v293998 ∧ v293998 ≤ 31 := by rw [hv293998]; exact hI293996.2.1 118 _ (show _ < 31 by omega)
                        refine qr_iastore 273 rfl (by decide) rfl (by omega) (by decide) rfl ?_
                        refine qy_wA (qw_r α293994 116 (qzu (α293994 116) (u293983 : Int).toNat v293998)) rfl (fun α294000 e294001 => ?_)
                        have hI294002 : qI σ293752 α294000 κ ρ := by rw [e294001]; exact qI_r hI293996 116 _ rfl (show 0 ≤ v293998 ∧ v293998 ≤ 31 by omega)
                        have hF294003 : qFr [(86, 4), (86, 5), (86, 10), (86, 15), (86, 23), (86, 29), (86, 30), (86, 35), (86, 36), (86, 37), (86, 38), (86, 39), (86, 50), (86, 51)] [87, 88, 89, 90, 96, 109, 115, 116, 117, 118] σ α σ293752 α294000 := by rw [e294001]; exact qFr_r hF293997 116 _ (by decide)
                        refine qr_iinc _ 276 rfl g293982 (by decide) rfl rfl ?_
                        refine qr_goto 238 rfl rfl ?_
                        exact ih293990 _ (u293983 + 1) α294000 (by omega) (qm_gk g293980 (by decide) (Or.inl (by decide))) (qm_gk g293981 (by decide) (Or.inl (by decide))) (qm_ge _ _ _) (by omega) hI294002 hF294003
                  exact hL293989 ((31 - 0 + 1 : Int)).toNat _ 0 α292015 (by omega) (qm_gk g292002 (by decide) (Or.inl (by decide))) (qm_gk g292008 (by decide) (Or.inl (by decide))) (qm_ge _ _ _) (by omega) hI293754 hF293755
                · skip
                  refine qr_iconst 112 rfl rfl ?_
                  refine qr_istore _ 114 rfl (by decide) rfl rfl ?_
                  have hL295637 : ∀ (n : Nat) (ls : qm_L) (u295623 u295625 u295628 : Int) (σ295629 α295630 : Nat → Nat → Int), 32 - u295628 < (n : Int) → qm_get ls 0 = some (.ref 86) → qm_get ls 3 = some (.int (qz x2)) → qm_get ls 4 = some (.long (ql v8)) → qm_get ls 6 = some (.long (ql (σ 86 10))) → qm_get ls 8 = some (.long (ql (σ 86 51))) → qm_get ls 10 = some (.int (qz (σ 86 50))) → qm_get ls 11 = some (.int (qz u295623)) → qm_get ls 12 = some (.int (qz u295625)) → qm_get ls 13 = some (.int (qz u292013)) → qm_get ls 14 = some (.int (qz u295628)) → ((-2) ≤ u295623 ∧ u295623 ≤ 3131) → ((-2147483648) ≤ u295625 ∧ u295625 ≤ 2147483647) → (0 ≤ u295628 ∧ u295628 ≤ 32) → qI σ295629 α295630 κ ρ → qFr [(86, 4), (86, 5), (86, 10), (86, 15), (86, 23), (86, 29), (86, 30), (86, 35), (86, 36), (86, 37), (86, 38), (86, 39), (86, 50), (86, 51)] [87, 88, 89, 90, 96, 109, 115, 116, 117, 118] σ α σ295629 α295630 → σ295629 86 6 = (σ292014 86 6) → qr_W (qe L xs vb) (d + 48) qx_e251 (fun r w' => ∃ σ' α', w' = qw σ' α' κ ρ ∧ qI σ' α' κ ρ ∧ qFr [(86, 4), (86, 5), (86, 10), (86, 15), (86, 23), (86, 29), (86, 30), (86, 35), (86, 36), (86, 37), (86, 38), (86, 39), (86, 50), (86, 51)] [87, 88, 89, 90, 96, 109, 115, 116, 117, 118] σ α σ' α' ∧ ∃ v : Int, r = some (.int (qz v)) ∧ ((-2147483648) ≤ v ∧ v ≤ 2147483647)) (114, ls, [], qw σ295629 α295630 κ ρ, 0, 0) := by
                    intro n
                    induction n with
                    | zero => intro ls u295623 u295625 u295628 σ295629 α295630 hm g295616 g295617 g295618 g295619 g295620 g295621 g295622 g295624 g295626 g295627 hf295634 hf295635 hf295636 hI295631 hF295632 hk295633; exact False.elim (by omega)
                    | succ n ih295638 =>
                      intro ls u295623 u295625 u295628 σ295629 α295630 hm g295616 g295617 g295618 g295619 g295620 g295621 g295622 g295624 g295626 g295627 hf295634 hf295635 hf295636 hI295631 hF295632 hk295633
                      refine qr_iload 116 rfl g295627 rfl ?_
                      refine qr_aload_n 117 rfl g295616 rfl ?_
                      refine qr_get 120 rfl rfl rfl (by decide) rfl ?_
                      refine qy_v (σ292014 86 6) ((hk295633).trans rfl) ?_
                      refine qr_icmp_ge 217 123 rfl rfl rfl (by omega) (by omega) (fun h295692 => ?_) (fun h295692 => ?_)
                      · skip
                        refine qr_iinc _ 220 rfl g295626 (by decide) rfl rfl ?_
                        refine qr_goto 102 rfl rfl ?_
                        exact ih292022 _ u295623 u295625 (u292013 + 1) σ295629 α295630 (by omega) (qm_gk g295616 (by decide) (Or.inl (by decide))) (qm_gk g295617 (by decide) (Or.inl (by decide))) (qm_gk g295618 (by decide) (Or.inl (by decide))) (qm_gk g295619 (by decide) (Or.inl (by decide))) (qm_gk g295620 (by decide) (Or.inl (by decide))) (qm_gk g295621 (by decide) (Or.inl (by decide))) (qm_gk g295622 (by decide) (Or.inl (by decide))) (qm_gk g295624 (by decide) (Or.inr rfl)) (qm_ge _ _ _) (by omega) (by omega) (by omega) hI295631 hF295632
                      · skip
                        refine qr_iload 125 rfl g295626 rfl ?_
                        refine qr_iload 127 rfl g295627 rfl ?_
                        have hJ295730 : ∀ (ls : qm_L) (u295718 u295720 : Int) (σ295723 α295724 : Nat → Nat → Int), qm_get ls 0 = some (.ref 86) → qm_get ls 3 = some (.int (qz x2)) → qm_get ls 4 = some (.long (ql v8)) → qm_get ls 6 = some (.long (ql (σ 86 10))) → qm_get ls 8 = some (.long (ql (σ 86 51))) → qm_get ls 10 = some (.int (qz (σ 86 50))) → qm_get ls 11 = some (.int (qz u295718)) → qm_get ls 12 = some (.int (qz u295720)) → qm_get ls 13 = some (.int (qz u292013)) → qm_get ls 14 = some (.int (qz u295628)) → ((-2) ≤ u295718 ∧ u295718 ≤ 3131) → ((-2147483648) ≤ u295720 ∧ u295720 ≤ 2147483647) → qI σ295723 α295724 κ ρ → qFr [(86, 4), (86, 5), (86, 10), (86, 15), (86, 23), (86, 29), (86, 30), (86, 35), (86, 36), (86, 37), (86, 38), (86, 39), (86, 50), (86, 51)] [87, 88, 89, 90, 96, 109, 115, 116, 117, 118] σ α σ295723 α295724 → σ295723 86 6 = (σ292014 86 6) → qr_W (qe L xs vb) (d + 48) qx_e251 (fun r w' => ∃ σ' α', w' = qw σ' α' κ ρ ∧ qI σ' α' κ ρ ∧ qFr [(86, 4), (86, 5), (86, 10), (86, 15), (86, 23), (86, 29), (86, 30), (86, 35), (86, 36), (86, 37), (86, 38), (86, 39), (86, 50), (86, 51)] [87, 88, 89, 90, 96, 109, 115, 116, 117, 118] σ α σ' α' ∧ ∃ v : Int, r = some (.int (qz v)) ∧ ((-2147483648) ≤ v ∧ v ≤ 2147483647)) (211, ls, [], qw σ295723 α295724 κ ρ, 0, 0) := by
                          intro ls u295718 u295720 σ295723 α295724 g295711 g295712 g295713 g295714 g295715 g295716 g295717 g295719 g295721 g295722 hf295728 hf295729 hI295725 hF295726 hk295727
                          refine qr_iinc _ 214 rfl g295722 (by decide) rfl rfl ?_
                          refine qr_goto 114 rfl rfl ?_
                          exact ih295638 _ u295718 u295720 (u295628 + 1) σ295723 α295724 (by omega) (qm_gk g295711 (by decide) (Or.inl (by decide))) (qm_gk g295712 (by decide) (Or.inl (by decide))) (qm_gk g295713 (by decide) (Or.inl (by decide))) (qm_gk g295714 (by decide) (Or.inl (by decide))) (qm_gk g295715 (by decide) (Or.inl (by decide))) (qm_gk g295716 (by decide) (Or.inl (by decide))) (qm_gk g295717 (by decide) (Or.inl (by decide))) (qm_gk g295719 (by decide) (Or.inl (by decide))) (qm_gk g295721 (by decide) (Or.inr rfl)) (qm_ge _ _ _) (by omega) (by omega) (by omega) hI295725 hF295726 ((hk295727).trans rfl)
                        refine qr_icmp_eq 211 130 rfl rfl rfl (by omega) (by omega) (fun h295731 => ?_) (fun h295731 => ?_)
                        · skip
                          exact hJ295730 _ u295623 u295625 σ295629 α295630 g295616 g295617 g295618 g295619 g295620 g295621 g295622 g295624 g295626 g295627 (by omega) (by omega) hI295631 hF295632 ((hk295633).trans rfl)
                        · skip
                          refine qr_lload 132 rfl g295618 rfl ?_
                          refine qr_iload 134 rfl g295626 rfl ?_
                          refine qr_callN 137 rfl rfl rfl (sf_225 (d := d + 47) hI295631 (by omega) (by omega)) ?_
                          rintro _ _ ⟨rfl, v295732, rfl, hv295732⟩
                          show qr_W (qe L xs vb) (d + 48) qx_e251 _ (137, _, [.int (qz v295732)], qw σ295629 α295630 κ ρ, 0, 0)
                          refine qr_if_eq 211 140 rfl rfl rfl (by omega) (fun h295733 => ?_) (fun h295733 => ?_)
                          · skip
                            exact hJ295730 _ u295623 u295625 σ295629 α295630 g295616 g295617 g295618 g295619 g295620 g295621 g295622 g295624 g295626 g295627 (by omega) (by omega) hI295631 hF295632 ((hk295633).trans rfl)
                          · skip
                            refine qr_lload 142 rfl g295618 rfl ?_
                            refine qr_iload 144 rfl g295627 rfl ?_
                            refine qr_callN 147 rfl rfl rfl (sf_225 (d := d + 47) hI295631 (by omega) (by omega)) ?_
                            rintro _ _ ⟨rfl, v295734, rfl, hv295734⟩
                            show qr_W (qe L xs vb) (d + 48) qx_e251 _ (147, _, [.int (qz v295734)], qw σ295629 α295630 κ ρ, 0, 0)
                            refine qr_if_ne 153 150 rfl rfl rfl (by omega) (fun h295735 => ?_) (fun h295735 => ?_)
                            · skip
                              refine qr_aload_n 154 rfl g295616 rfl ?_
                              refine qr_bipush 156 rfl (by decide) rfl ?_
                              refine qr_iload 158 rfl g295626 rfl ?_
                              refine qr_imul 159 rfl rfl ?_
                              refine qr_iload 161 rfl g295627 rfl ?_
                              refine qr_iadd 162 rfl rfl ?_
                              refine qr_lload 164 rfl g295618 rfl ?_
                              refine qr_iload_n 165 rfl g295617 rfl ?_
                              refine qr_iconst 166 rfl rfl ?_
                              refine qr_callN 169 rfl rfl rfl (sf_245_86 (d := d + 0) hI295631 (by omega) (by omega) (by omega) (by omega) (by omega) (by omega)) ?_
                              rintro _ _ ⟨σ295736, α295737, rfl, hI295738, hG295739, rfl⟩
                              have hF295740 : qFr [(86, 4), (86, 5), (86, 10), (86, 15), (86, 23), (86, 29), (86, 30), (86, 35), (86, 36), (86, 37), (86, 38), (86, 39), (86, 50), (86, 51)] [87, 88, 89, 90, 96, 109, 115, 116, 117, 118] σ α σ295736 α295737 := qFr_t hF295632 hG295739 (by decide) (by decide)
                              show qr_W (qe L xs vb) (d + 48) qx_e251 _ (169, _, [], qw σ295736 α295737 κ ρ, 0, 0)
                              refine qr_aload_n 170 rfl g295616 rfl ?_
                              refine qr_lload 172 rfl g295619 rfl ?_
                              refine qr_put 175 rfl (by decide) rfl (Nat.le_of_ble_eq_true rfl) (Nat.le_of_ble_eq_true rfl) (Or.inl rfl) (qr_fitL rfl _) rfl ?_
                              refine qy_wS (qw_s σ295736 86 10 (σ 86 10)) rfl (fun σ295741 e295742 => ?_)
                              have hI295743 : qI σ295741 α295737 κ ρ := by rw [e295742]; exact qI_s hI295738 86 10 rfl (show (-9223372036854775808) ≤ (σ 86 10) ∧ (σ 86 10) ≤ 9223372036854775807 by omega)
                              have hF295744 : qFr [(86, 4), (86, 5), (86, 10), (86, 15), (86, 23), (86, 29), (86, 30), (86, 35), (86, 36), (86, 37), (86, 38), (86, 39), (86, 50), (86, 51)] [87, 88, 89, 90, 96, 109, 115, 116, 117, 118] σ α σ295741 α295737 := by rw [e295742]; exact qFr_s hF295740 86 10 _ (by decide)
                              refine qr_aload_n 176 rfl g295616 rfl ?_
                              refine qr_lconst 177 rfl rfl ?_
                              refine qy_vl 0 rfl ?_
                              refine qr_put 180 rfl (by decide) rfl (Nat.le_of_ble_eq_true rfl) (Nat.le_of_ble_eq_true rfl) (Or.inl rfl) (qr_fitL rfl _) rfl ?_
                              refine qy_wS (qw_s σ295741 86 29 0) rfl (fun σ295745 e295746 => ?_)
                              have hI295747 : qI σ295745 α295737 κ ρ := by rw [e295746]; exact qI_s hI295743 86 29 rfl (show (-9223372036854775808) ≤ 0 ∧ 0 ≤ 9223372036854775807 by omega)
                              have hF295748 : qFr [(86, 4), (86, 5), (86, 10), (86, 15), (86, 23), (86, 29), (86, 30), (86, 35), (86, 36), (86, 37), (86, 38), (86, 39), (86, 50), (86, 51)] [87, 88, 89, 90, 96, 109, 115, 116, 117, 118] σ α σ295745 α295737 := by rw [e295746]; exact qFr_s hF295744 86 29 _ (by decide)
                              refine qr_aload_n 181 rfl g295616 rfl ?_
                              refine qr_get 184 rfl rfl rfl (by decide) rfl ?_
                              have hs295749 : (-9223372036854775808) ≤ σ295745 86 51 ∧ σ295745 86 51 ≤ 9223372036854775807 := hI295747.1 86 51
                              refine qr_callN 187 rfl rfl rfl (sf_252 (d := d + 47) hI295747 (by omega)) ?_
                              rintro _ _ ⟨rfl, v295750, rfl, hv295750⟩
                              show qr_W (qe L xs vb) (d + 48) qx_e251 _ (187, _, [.int (qz v295750)], qw σ295745 α295737 κ ρ, 0, 0)
                              refine qr_iload 189 rfl g295624 rfl ?_
                              refine qr_icmp_ge 211 192 rfl rfl rfl (by omega) (by omega) (fun h295751 => ?_) (fun h295751 => ?_)
                              · skip
                                exact hJ295730 _ u295623 u295625 σ295745 α295737 g295616 g295617 g295618 g295619 g295620 g295621 g295622 g295624 g295626 g295627 (by omega) (by omega) hI295747 hF295748 ((congrFun (congrFun e295746 86) 6).trans ((congrFun (congrFun e295742 86) 6).trans ((hG295739.1 86 6 (by decide)).trans ((hk295633).trans rfl))))
                              · skip
                                refine qr_bipush 194 rfl (by decide) rfl ?_
                                refine qr_iload 196 rfl g295626 rfl ?_
                                refine qr_imul 197 rfl rfl ?_
                                refine qr_iload 199 rfl g295627 rfl ?_
                                refine qr_iadd 200 rfl rfl ?_
                                refine qr_istore _ 202 rfl (by decide) rfl rfl ?_
                                refine qr_aload_n 203 rfl (qm_gk g295616 (by decide) (Or.inl (by decide))) rfl ?_
                                refine qr_get 206 rfl rfl rfl (by decide) rfl ?_
                                refine qr_callN 209 rfl rfl rfl (sf_252 (d := d + 47) hI295747 (by omega)) ?_
                                rintro _ _ ⟨rfl, v295752, rfl, hv295752⟩
                                show qr_W (qe L xs vb) (d + 48) qx_e251 _ (209, _, [.int (qz v295752)], qw σ295745 α295737 κ ρ, 0, 0)
                                refine qr_istore _ 211 rfl (by decide) rfl rfl ?_
                                exact hJ295730 _ ((100 * u292013) + u295628) v295752 σ295745 α295737 (qm_gk (qm_gk g295616 (by decide) (Or.inl (by decide))) (by decide) (Or.inl (by decide))) (qm_gk (qm_gk g295617 (by decide) (Or.inl (by decide))) (by decide) (Or.inl (by decide))) (qm_gk (qm_gk g295618 (by decide) (Or.inl (by decide))) (by decide) (Or.inl (by decide))) (qm_gk (qm_gk g295619 (by decide) (Or.inl (by decide))) (by decide) (Or.inl (by decide))) (qm_gk (qm_gk g295620 (by decide) (Or.inl (by decide))) (by decide) (Or.inl (by decide))) (qm_gk (qm_gk g295621 (by decide) (Or.inr rfl)) (by decide) (Or.inl (by decide))) (qm_gk (qm_ge _ _ _) (by decide) (Or.inr rfl)) (qm_ge _ _ _) (qm_gk (qm_gk g295626 (by decide) (Or.inl (by decide))) (by decide) (Or.inl (by decide))) (qm_gk (qm_gk g295627 (by decide) (Or.inl (by decide))) (by decide) (Or.inl (by decide))) (by omega) (by omega) hI295747 hF295748 ((congrFun (congrFun e295746 86) 6).trans ((congrFun (congrFun e295742 86) 6).trans ((hG295739.1 86 6 (by decide)).trans ((hk295633).trans rfl))))
                            · skip
                              refine qr_goto 211 rfl rfl ?_
                              exact hJ295730 _ u295623 u295625 σ295629 α295630 g295616 g295617 g295618 g295619 g295620 g295621 g295622 g295624 g295626 g295627 (by omega) (by omega) hI295631 hF295632 ((hk295633).trans rfl)
                  exact hL295637 ((32 - 0 + 1 : Int)).toNat _ u292009 u292011 0 σ292014 α292015 (by omega) (qm_gk g292002 (by decide) (Or.inl (by decide))) (qm_gk g292003 (by decide) (Or.inl (by decide))) (qm_gk g292004 (by decide) (Or.inl (by decide))) (qm_gk g292005 (by decide) (Or.inl (by decide))) (qm_gk g292006 (by decide) (Or.inl (by decide))) (qm_gk g292007 (by decide) (Or.inl (by decide))) (qm_gk g292008 (by decide) (Or.inl (by decide))) (qm_gk g292010 (by decide) (Or.inl (by decide))) (qm_gk g292012 (by decide) (Or.inr rfl)) (qm_ge _ _ _) (by omega) (by omega) (by omega) hI292016 hF292017 (rfl)
            exact hL292021 ((32 - 0 + 1 : Int)).toNat _ (-2) 99 0 σ α236604 (by omega) (qm_gk (qm_gk (qm_gk g236595 (by decide) (Or.inl (by decide))) (by decide) (Or.inl (by decide))) (by decide) (Or.inl (by decide))) (qm_gk (qm_gk (qm_gk g236596 (by decide) (Or.inl (by decide))) (by decide) (Or.inl (by decide))) (by decide) (Or.inl (by decide))) (qm_gk (qm_gk (qm_gk g236597 (by decide) (Or.inl (by decide))) (by decide) (Or.inl (by decide))) (by decide) (Or.inl (by decide))) (qm_gk (qm_gk (qm_gk g236598 (by decide) (Or.inl (by decide))) (by decide) (Or.inl (by decide))) (by decide) (Or.inl (by decide))) (qm_gk (qm_gk (qm_gk g236599 (by decide) (Or.inl (by decide))) (by decide) (Or.inl (by decide))) (by decide) (Or.inl (by decide))) (qm_gk (qm_gk (qm_gk g236600 (by decide) (Or.inr rfl)) (by decide) (Or.inl (by decide))) (by decide) (Or.inl (by decide))) (qm_gk (qm_gk (qm_ge _ _ _) (by decide) (Or.inr rfl)) (by decide) (Or.inl (by decide))) (qm_gk (qm_ge _ _ _) (by decide) (Or.inr rfl)) (qm_ge _ _ _) (by omega) (by omega) (by omega) hI236605 hF236606
          · skip
            refine qr_aload_n 58 rfl g236595 rfl ?_
            refine qr_get 61 rfl rfl rfl (by decide) rfl ?_
            refine qr_iload 63 rfl g236601 rfl ?_
            refine qr_aload_n 64 rfl g236595 rfl ?_
            refine qr_get 67 rfl rfl rfl (by decide) rfl ?_
            refine qr_iload 69 rfl g236601 rfl ?_
            refine qr_iaload 70 rfl rfl (by omega) (by decide) rfl ?_
            refine qr_topI (fun v295753 hv295753 => ?_)
            have hs295754 : 0 ≤ v295753 ∧ v295753 ≤ 31 := by rw [hv295753]; exact hI236605.2.1 115 _ (show _ < 31 by omega)
            refine qr_iastore 71 rfl (by decide) rfl (by omega) (by decide) rfl ?_
            refine qy_wA (qw_r α236604 117 (qzu (α236604 117) (u236602 : Int).toNat v295753)) rfl (fun α295755 e295756 => ?_)
            have hI295757 : qI σ α295755 κ ρ := by rw [e295756]; exact qI_r hI236605 117 _ rfl (show 0 ≤ v295753 ∧ v295753 ≤ 31 by omega)
            have hF295758 : qFr [(86, 4), (86, 5), (86, 10), (86, 15), (86, 23), (86, 29), (86, 30), (86, 35), (86, 36), (86, 37), (86, 38), (86, 39), (86, 50), (86, 51)] [87, 88, 89, 90, 96, 109, 115, 116, 117, 118] σ α σ α295755 := by rw [e295756]; exact qFr_r hF236606 117 _ (by decide)
            refine qr_aload_n 72 rfl g236595 rfl ?_
            refine qr_get 75 rfl rfl rfl (by decide) rfl ?_
            refine qr_iload 77 rfl g236601 rfl ?_
            refine qr_aload_n 78 rfl g236595 rfl ?_
            refine qr_get 81 rfl rfl rfl (by decide) rfl ?_
            refine qr_iload 83 rfl g236601 rfl ?_
            refine qr_iaload 84 rfl rfl (by omega) (by decide) rfl ?_
            refine qr_topI (fun v295759 hv295759 => ?_)
            have hs295760 : 0 ≤ v295759 ∧ v295759 ≤ 31 := by rw [hv295759]; exact hI295757.2.1 116 _ (show _ < 31 by omega)
            refine qr_iastore 85 rfl (by decide) rfl (by omega) (by decide) rfl ?_
            refine qy_wA (qw_r α295755 118 (qzu (α295755 118) (u236602 : Int).toNat v295759)) rfl (fun α295761 e295762 => ?_)
            have hI295763 : qI σ α295761 κ ρ := by rw [e295762]; exact qI_r hI295757 118 _ rfl (show 0 ≤ v295759 ∧ v295759 ≤ 31 by omega)
            have hF295764 : qFr [(86, 4), (86, 5), (86, 10), (86, 15), (86, 23), (86, 29), (86, 30), (86, 35), (86, 36), (86, 37), (86, 38), (86, 39), (86, 50), (86, 51)] [87, 88, 89, 90, 96, 109, 115, 116, 117, 118] σ α σ α295761 := by rw [e295762]; exact qFr_r hF295758 118 _ (by decide)
            refine qr_iinc _ 88 rfl g236601 (by decide) rfl rfl ?_
            refine qr_goto 50 rfl rfl ?_
            exact ih236609 _ (u236602 + 1) α295761 (by omega) (qm_gk g236595 (by decide) (Or.inl (by decide))) (qm_gk g236596 (by decide) (Or.inl (by decide))) (qm_gk g236597 (by decide) (Or.inl (by decide))) (qm_gk g236598 (by decide) (Or.inl (by decide))) (qm_gk g236599 (by decide) (Or.inl (by decide))) (qm_gk g236600 (by decide) (Or.inr rfl)) (qm_ge _ _ _) (by omega) hI295763 hF295764
      exact hL236608 ((31 - 0 + 1 : Int)).toNat _ 0 α (by omega) rfl rfl rfl rfl rfl rfl rfl (by omega) hI hF0
    · skip
      refine qr_iconst 16 rfl rfl ?_
      refine qr_retI rfl rfl (by decide) (by decide) ?_
      exact ⟨_, _, rfl, hI, hF0, (-1), rfl, by omega⟩

set_option maxHeartbeats 4000000 in
set_option maxRecDepth 20000 in
/-- OneRoofModel.wed -/
theorem sf_253_86 {L : Nat} {xs : Nat → Int} {vb : Bool} {d : Nat} {σ α : Nat → Nat → Int} {κ : Nat → Option Nat} {ρ : Nat} {x1 : Int} {x2 : Int} {x3 : Int} (hI : qI σ α κ ρ) (r1 : (-2147483648) ≤ x1 ∧ x1 ≤ 2147483647) (r2 : (-2147483648) ≤ x2 ∧ x2 ≤ 2147483647) (r3 : (-2147483648) ≤ x3 ∧ x3 ≤ 2147483647) (p0 : σ 86 11 ≤ 60) : qm_T (qe L xs vb) (d + 6) 253 [.ref 86, .int (qz x1), .int (qz x2), .int (qz x3)] (qw σ α κ ρ) (fun r w' => ∃ σ' α', w' = qw σ' α' κ ρ ∧ qI σ' α' κ ρ ∧ qFr [(86, 11), (86, 15), (86, 23)] [94, 95, 96, 119] σ α σ' α' ∧ σ' 86 11 ≤ 60 ∧ ∃ v : Int, r = some (.int (qz v)) ∧ ((-2147483648) ≤ v ∧ v ≤ 2147483647)) := by
  refine qr_start (d := d + 5) qv_e253 (Nat.le_of_ble_eq_true rfl) ?_
  show qr_W (qe L xs vb) (d + 5) qx_e253 _ (0, [(0, .ref 86), (1, .int (qz x1)), (2, .int (qz x2)), (3, .int (qz x3))], [], _, 0, 0)
  have hF0 := qFr_rf [(86, 11), (86, 15), (86, 23)] [94, 95, 96, 119] σ α
  have hz86_11 : 0 ≤ σ 86 11 ∧ σ 86 11 ≤ 61 := hI.1 86 11
  refine qr_aload_n 1 rfl rfl rfl ?_
  refine qr_iload_n 2 rfl rfl rfl ?_
  refine qr_callN 5 rfl rfl rfl (sf_190_86 (d := d + 2) hI (by omega)) ?_
  have hs3 : 0 ≤ σ 86 6 ∧ σ 86 6 ≤ 32 := hI.1 86 6
  rintro _ _ ⟨rfl, v1, rfl, hv1, hp2⟩
  show qr_W (qe L xs vb) (d + 5) qx_e253 _ (5, _, [.int (qz v1)], qw σ α κ ρ, 0, 0)
  refine qr_if_eq 40 8 rfl rfl rfl (by omega) (fun h4 => ?_) (fun h4 => ?_)
  · skip
    refine qr_iconst 41 rfl rfl ?_
    refine qr_retI rfl rfl (by decide) (by decide) ?_
    exact ⟨_, _, rfl, hI, hF0, (by have hw : σ 86 11 = (σ 86 11) := rfl; omega), (-1), rfl, by omega⟩
  · skip
    refine qr_aload_n 9 rfl rfl rfl ?_
    refine qr_iload_n 10 rfl rfl rfl ?_
    refine qr_bipush 12 rfl (by decide) rfl ?_
    refine qr_idiv 13 rfl (by omega) (by omega) rfl ?_
    refine qr_iload_n 14 rfl rfl rfl ?_
    refine qr_bipush 16 rfl (by decide) rfl ?_
    refine qr_irem 17 rfl (by omega) (by omega) rfl ?_
    refine qr_callN 20 rfl rfl rfl (sf_184_86 (d := d + 4) hI (by omega) (by omega)) ?_
    rintro _ _ ⟨rfl, v5, rfl, hv5⟩
    show qr_W (qe L xs vb) (d + 5) qx_e253 _ (20, _, [.int (qz v5)], qw σ α κ ρ, 0, 0)
    refine qr_if_ne 40 23 rfl rfl rfl (by omega) (fun h6 => ?_) (fun h6 => ?_)
    · skip
      refine qr_iconst 41 rfl rfl ?_
      refine qr_retI rfl rfl (by decide) (by decide) ?_
      exact ⟨_, _, rfl, hI, hF0, (by have hw : σ 86 11 = (σ 86 11) := rfl; omega), (-1), rfl, by omega⟩
    · skip
      refine qr_iload_n 24 rfl rfl rfl ?_
      refine qr_callN 27 rfl rfl rfl (sf_191 (d := d + 3) hI (by omega)) ?_
      rintro _ _ ⟨rfl, v7, rfl, hv7, hp8⟩
      show qr_W (qe L xs vb) (d + 5) qx_e253 _ (27, _, [.int (qz v7)], qw σ α κ ρ, 0, 0)
      refine qr_if_eq 40 30 rfl rfl rfl (by omega) (fun h9 => ?_) (fun h9 => ?_)
      · skip
        refine qr_iconst 41 rfl rfl ?_
        refine qr_retI rfl rfl (by decide) (by decide) ?_
        exact ⟨_, _, rfl, hI, hF0, (by have hw : σ 86 11 = (σ 86 11) := rfl; omega), (-1), rfl, by omega⟩
      · skip
        refine qr_iload_n 31 rfl rfl rfl ?_
        refine qr_i2l 32 rfl (by omega) rfl ?_
        refine qr_lconst 33 rfl rfl ?_
        refine qy_vl 0 rfl ?_
        refine qr_lconst 34 rfl rfl ?_
        refine qy_vl 1 rfl ?_
        refine qr_callN 37 rfl rfl rfl (sf_175 (d := d + 4) hI (by omega) (by omega) (by omega)) ?_
        rintro _ _ ⟨rfl, v10, rfl, hv10, hp11⟩
        show qr_W (qe L xs vb) (d + 5) qx_e253 _ (37, _, [.int (qz v10)], qw σ α κ ρ, 0, 0)
        refine qr_if_ne 42 40 rfl rfl rfl (by omega) (fun h12 => ?_) (fun h12 => ?_)
        · skip
          refine qr_iconst 43 rfl rfl ?_
          refine qr_istore _ 45 rfl (by decide) rfl rfl ?_
          refine qr_iconst 46 rfl rfl ?_
          refine qr_istore _ 48 rfl (by decide) rfl rfl ?_
          have hL324874 : ∀ (n : Nat) (ls : qm_L) (u324864 u324866 : Int) (σ324867 α324868 : Nat → Nat → Int), 32 - u324866 < (n : Int) → qm_get ls 0 = some (.ref 86) → qm_get ls 1 = some (.int (qz x1)) → qm_get ls 2 = some (.int (qz x2)) → qm_get ls 3 = some (.int (qz x3)) → qm_get ls 4 = some (.int (qz u324864)) → qm_get ls 5 = some (.int (qz u324866)) → ((-2147483648) ≤ u324864 ∧ u324864 ≤ 2147483647) → (0 ≤ u324866 ∧ u324866 ≤ 32) → qI σ324867 α324868 κ ρ → qFr [(86, 11), (86, 15), (86, 23)] [94, 95, 96, 119] σ α σ324867 α324868 → σ324867 86 11 = (σ 86 11) → qr_W (qe L xs vb) (d + 5) qx_e253 (fun r w' => ∃ σ' α', w' = qw σ' α' κ ρ ∧ qI σ' α' κ ρ ∧ qFr [(86, 11), (86, 15), (86, 23)] [94, 95, 96, 119] σ α σ' α' ∧ σ' 86 11 ≤ 60 ∧ ∃ v : Int, r = some (.int (qz v)) ∧ ((-2147483648) ≤ v ∧ v ≤ 2147483647)) (48, ls, [], qw σ324867 α324868 κ ρ, 0, 0) := by
            intro n
            induction n with
            | zero => intro ls u324864 u324866 σ324867 α324868 hm g324859 g324860 g324861 g324862 g324863 g324865 hf324872 hf324873 hI324869 hF324870 hk324871; exact False.elim (by omega)
            | succ n ih324875 =>
              intro ls u324864 u324866 σ324867 α324868 hm g324859 g324860 g324861 g324862 g324863 g324865 hf324872 hf324873 hI324869 hF324870 hk324871
              refine qr_iload 50 rfl g324865 rfl ?_
              refine qr_aload_n 51 rfl g324859 rfl ?_
              refine qr_get 54 rfl rfl rfl (by decide) rfl ?_
              have hs324876 : 0 ≤ σ324867 86 6 ∧ σ324867 86 6 ≤ 32 := hI324869.1 86 6
              refine qr_icmp_ge 148 57 rfl rfl rfl (by omega) (by omega) (fun h326197 => ?_) (fun h326197 => ?_)
              · skip
                refine qr_iload_n 149 rfl g324862 rfl ?_
                refine qr_iconst 150 rfl rfl ?_
                refine qr_icmp_ne 156 153 rfl rfl rfl (by omega) (by omega) (fun h326198 => ?_) (fun h326198 => ?_)
                · skip
                  refine qr_aload_n 157 rfl g324859 rfl ?_
                  refine qr_get 160 rfl rfl rfl (by decide) rfl ?_
                  refine qr_aload_n 161 rfl g324859 rfl ?_
                  refine qr_get 164 rfl rfl rfl (by decide) rfl ?_
                  refine qy_v (σ 86 11) ((hk324871).trans rfl) ?_
                  refine qr_iload_n 165 rfl g324860 rfl ?_
                  refine qr_bipush 167 rfl (by decide) rfl ?_
                  refine qr_idiv 168 rfl (by omega) (by omega) rfl ?_
                  refine qr_iastore 169 rfl (by decide) rfl (by omega) (by decide) rfl ?_
                  refine qy_wA (qw_r α324868 94 (qzu (α324868 94) ((σ 86 11) : Int).toNat (x1 / 100))) rfl (fun α326199 e326200 => ?_)
                  have hI326201 : qI σ324867 α326199 κ ρ := by rw [e326200]; exact qI_r hI324869 94 _ rfl (show 0 ≤ (x1 / 100) ∧ (x1 / 100) ≤ 31 by omega)
                  have hF326202 : qFr [(86, 11), (86, 15), (86, 23)] [94, 95, 96, 119] σ α σ324867 α326199 := by rw [e326200]; exact qFr_r hF324870 94 _ (by decide)
                  refine qr_aload_n 170 rfl g324859 rfl ?_
                  refine qr_get 173 rfl rfl rfl (by decide) rfl ?_
                  refine qr_aload_n 174 rfl g324859 rfl ?_
                  refine qr_get 177 rfl rfl rfl (by decide) rfl ?_
                  refine qy_v (σ 86 11) ((hk324871).trans rfl) ?_
                  refine qr_iload_n 178 rfl g324860 rfl ?_
                  refine qr_bipush 180 rfl (by decide) rfl ?_
                  refine qr_irem 181 rfl (by omega) (by omega) rfl ?_
                  refine qr_iastore 182 rfl (by decide) rfl (by omega) (by decide) rfl ?_
                  refine qy_wA (qw_r α326199 95 (qzu (α326199 95) ((σ 86 11) : Int).toNat (x1 % 100))) rfl (fun α326203 e326204 => ?_)
                  have hI326205 : qI σ324867 α326203 κ ρ := by rw [e326204]; exact qI_r hI326201 95 _ rfl (show 0 ≤ (x1 % 100) ∧ (x1 % 100) ≤ 31 by omega)
                  have hF326206 : qFr [(86, 11), (86, 15), (86, 23)] [94, 95, 96, 119] σ α σ324867 α326203 := by rw [e326204]; exact qFr_r hF326202 95 _ (by decide)
                  refine qr_aload_n 183 rfl g324859 rfl ?_
                  refine qr_dup 184 rfl rfl rfl ?_
                  refine qr_get 187 rfl rfl rfl (by decide) rfl ?_
                  refine qy_v (σ 86 11) ((hk324871).trans rfl) ?_
                  refine qr_iconst 188 rfl rfl ?_
                  refine qr_iadd 189 rfl rfl ?_
                  refine qr_put 192 rfl (by decide) rfl (Nat.le_of_ble_eq_true rfl) (Nat.le_of_ble_eq_true rfl) (Or.inl rfl) (qr_fitI rfl _) rfl ?_
                  refine qy_wS (qw_s σ324867 86 11 ((σ 86 11) + 1)) rfl (fun σ326207 e326208 => ?_)
                  have hI326209 : qI σ326207 α326203 κ ρ := by rw [e326208]; exact qI_s hI326205 86 11 rfl (show 0 ≤ ((σ 86 11) + 1) ∧ ((σ 86 11) + 1) ≤ 61 by omega)
                  have hF326210 : qFr [(86, 11), (86, 15), (86, 23)] [94, 95, 96, 119] σ α σ326207 α326203 := by rw [e326208]; exact qFr_s hF326206 86 11 _ (by decide)
                  refine qr_aload_n 193 rfl g324859 rfl ?_
                  refine qr_iconst 194 rfl rfl ?_
                  refine qr_put 197 rfl (by decide) rfl (Nat.le_of_ble_eq_true rfl) (Nat.le_of_ble_eq_true rfl) (Or.inl rfl) (qr_fitZ rfl (by omega)) rfl ?_
                  refine qy_wS (qw_s σ326207 86 15 0) rfl (fun σ326211 e326212 => ?_)
                  have hI326213 : qI σ326211 α326203 κ ρ := by rw [e326212]; exact qI_s hI326209 86 15 rfl (show 0 ≤ 0 ∧ 0 ≤ 1 by omega)
                  have hF326214 : qFr [(86, 11), (86, 15), (86, 23)] [94, 95, 96, 119] σ α σ326211 α326203 := by rw [e326212]; exact qFr_s hF326210 86 15 _ (by decide)
                  refine qr_iconst 198 rfl rfl ?_
                  refine qr_istore _ 200 rfl (by decide) rfl rfl ?_
                  refine qr_iconst 201 rfl rfl ?_
                  refine qr_istore _ 203 rfl (by decide) rfl rfl ?_
                  have hL354039 : ∀ (n : Nat) (ls : qm_L) (u354028 u354030 : Int) (σ354031 α354032 : Nat → Nat → Int), 32 - u354030 < (n : Int) → qm_get ls 0 = some (.ref 86) → qm_get ls 2 = some (.int (qz x2)) → qm_get ls 5 = some (.int (qz u354028)) → qm_get ls 6 = some (.int (qz u354030)) → ((-2147483648) ≤ u354028 ∧ u354028 ≤ 2147483647) → (0 ≤ u354030 ∧ u354030 ≤ 32) → qI σ354031 α354032 κ ρ → qFr [(86, 11), (86, 15), (86, 23)] [94, 95, 96, 119] σ α σ354031 α354032 → σ354031 86 6 = (σ324867 86 6) → σ354031 86 11 = ((σ 86 11) + 1) → qr_W (qe L xs vb) (d + 5) qx_e253 (fun r w' => ∃ σ' α', w' = qw σ' α' κ ρ ∧ qI σ' α' κ ρ ∧ qFr [(86, 11), (86, 15), (86, 23)] [94, 95, 96, 119] σ α σ' α' ∧ σ' 86 11 ≤ 60 ∧ ∃ v : Int, r = some (.int (qz v)) ∧ ((-2147483648) ≤ v ∧ v ≤ 2147483647)) (203, ls, [], qw σ354031 α354032 κ ρ, 0, 0) := by
                    intro n
                    induction n with
                    | zero => intro ls u354028 u354030 σ354031 α354032 hm g354025 g354026 g354027 g354029 hf354037 hf354038 hI354033 hF354034 hk354035 hk354036; exact False.elim (by omega)
                    | succ n ih354040 =>
                      intro ls u354028 u354030 σ354031 α354032 hm g354025 g354026 g354027 g354029 hf354037 hf354038 hI354033 hF354034 hk354035 hk354036
                      refine qr_iload 205 rfl g354029 rfl ?_
                      refine qr_aload_n 206 rfl g354025 rfl ?_
                      refine qr_get 209 rfl rfl rfl (by decide) rfl ?_
                      refine qy_v (σ324867 86 6) ((hk354035).trans rfl) ?_
                      refine qr_icmp_ge 292 212 rfl rfl rfl (by omega) (by omega) (fun h355031 => ?_) (fun h355031 => ?_)
                      · skip
                        refine qr_aload_n 293 rfl g354025 rfl ?_
                        refine qr_dup 294 rfl rfl rfl ?_
                        refine qr_get 297 rfl rfl rfl (by decide) rfl ?_
                        refine qy_v ((σ 86 11) + 1) ((hk354036).trans rfl) ?_
                        refine qr_iconst 298 rfl rfl ?_
                        refine qr_isub 299 rfl rfl ?_
                        refine qr_put 302 rfl (by decide) rfl (Nat.le_of_ble_eq_true rfl) (Nat.le_of_ble_eq_true rfl) (Or.inl rfl) (qr_fitI rfl _) rfl ?_
                        refine qy_wS (qw_s σ354031 86 11 (((σ 86 11) + 1) - 1)) rfl (fun σ355032 e355033 => ?_)
                        have hI355034 : qI σ355032 α354032 κ ρ := by rw [e355033]; exact qI_s hI354033 86 11 rfl (show 0 ≤ (((σ 86 11) + 1) - 1) ∧ (((σ 86 11) + 1) - 1) ≤ 61 by omega)
                        have hF355035 : qFr [(86, 11), (86, 15), (86, 23)] [94, 95, 96, 119] σ α σ355032 α354032 := by rw [e355033]; exact qFr_s hF354034 86 11 _ (by decide)
                        refine qr_aload_n 303 rfl g354025 rfl ?_
                        refine qr_iconst 304 rfl rfl ?_
                        refine qr_put 307 rfl (by decide) rfl (Nat.le_of_ble_eq_true rfl) (Nat.le_of_ble_eq_true rfl) (Or.inl rfl) (qr_fitZ rfl (by omega)) rfl ?_
                        refine qy_wS (qw_s σ355032 86 15 0) rfl (fun σ355036 e355037 => ?_)
                        have hI355038 : qI σ355036 α354032 κ ρ := by rw [e355037]; exact qI_s hI355034 86 15 rfl (show 0 ≤ 0 ∧ 0 ≤ 1 by omega)
                        have hF355039 : qFr [(86, 11), (86, 15), (86, 23)] [94, 95, 96, 119] σ α σ355036 α354032 := by rw [e355037]; exact qFr_s hF355035 86 15 _ (by decide)
                        refine qr_iload 309 rfl g354027 rfl ?_
                        refine qr_retI rfl rfl (by decide) (by decide) ?_
                        exact ⟨_, _, rfl, hI355038, hF355039, (by have hw : σ355036 86 11 = (((σ 86 11) + 1) - 1) := (congrFun (congrFun e355037 86) 11).trans ((congrFun (congrFun e355033 86) 11).trans rfl); omega), u354028, rfl, by omega⟩
                      · skip
                        refine qr_iconst 213 rfl rfl ?_
                        refine qr_istore _ 215 rfl (by decide) rfl rfl ?_
                        have hL355979 : ∀ (n : Nat) (ls : qm_L) (u355967 u355970 : Int) (σ355971 α355972 : Nat → Nat → Int), 31 - u355970 < (n : Int) → qm_get ls 0 = some (.ref 86) → qm_get ls 2 = some (.int (qz x2)) → qm_get ls 5 = some (.int (qz u355967)) → qm_get ls 6 = some (.int (qz u354030)) → qm_get ls 7 = some (.int (qz u355970)) → ((-2147483648) ≤ u355967 ∧ u355967 ≤ 2147483647) → (0 ≤ u355970 ∧ u355970 ≤ 31) → qI σ355971 α355972 κ ρ → qFr [(86, 11), (86, 15), (86, 23)] [94, 95, 96, 119] σ α σ355971 α355972 → σ355971 86 6 = (σ324867 86 6) → σ355971 86 11 = ((σ 86 11) + 1) → qr_W (qe L xs vb) (d + 5) qx_e253 (fun r w' => ∃ σ' α', w' = qw σ' α' κ ρ ∧ qI σ' α' κ ρ ∧ qFr [(86, 11), (86, 15), (86, 23)] [94, 95, 96, 119] σ α σ' α' ∧ σ' 86 11 ≤ 60 ∧ ∃ v : Int, r = some (.int (qz v)) ∧ ((-2147483648) ≤ v ∧ v ≤ 2147483647)) (215, ls, [], qw σ355971 α355972 κ ρ, 0, 0) := by
                          intro n
                          induction n with
                          | zero => intro ls u355967 u355970 σ355971 α355972 hm g355964 g355965 g355966 g355968 g355969 hf355977 hf355978 hI355973 hF355974 hk355975 hk355976; exact False.elim (by omega)
                          | succ n ih355980 =>
                            intro ls u355967 u355970 σ355971 α355972 hm g355964 g355965 g355966 g355968 g355969 hf355977 hf355978 hI355973 hF355974 hk355975 hk355976
                            refine qr_iload 217 rfl g355969 rfl ?_
                            refine qr_iload 219 rfl g355968 rfl ?_
                            refine qr_icmp_ge 286 222 rfl rfl rfl (by omega) (by omega) (fun h356011 => ?_) (fun h356011 => ?_)
                            · skip
                              refine qr_iinc _ 289 rfl g355968 (by decide) rfl rfl ?_
                              refine qr_goto 203 rfl rfl ?_
                              exact ih354040 _ u355967 (u354030 + 1) σ355971 α355972 (by omega) (qm_gk g355964 (by decide) (Or.inl (by decide))) (qm_gk g355965 (by decide) (Or.inl (by decide))) (qm_gk g355966 (by decide) (Or.inr rfl)) (qm_ge _ _ _) (by omega) (by omega) hI355973 hF355974 ((hk355975).trans rfl) ((hk355976).trans rfl)
                            · skip
                              refine qr_iload 224 rfl g355966 rfl ?_
                              refine qr_aload_n 225 rfl g355964 rfl ?_
                              refine qr_get 228 rfl rfl rfl (by decide) rfl ?_
                              refine qr_bipush 230 rfl (by decide) rfl ?_
                              refine qr_iload 232 rfl g355968 rfl ?_
                              refine qr_imul 233 rfl rfl ?_
                              refine qr_iload 235 rfl g355969 rfl ?_
                              refine qr_iadd 236 rfl rfl ?_
                              refine qr_baload 237 rfl (by decide) rfl (by omega) (by decide) rfl ?_
                              refine qr_topI (fun v356012 hv356012 => ?_)
                              have hs356013 : 0 ≤ v356012 ∧ v356012 ≤ 1 := by rw [hv356012]; exact hI355973.2.1 119 _ (show _ < 1024 by omega)
                              have hJ356034 : ∀ (ls : qm_L) (u356026 : Int) (σ356027 α356028 : Nat → Nat → Int), qm_get ls 0 = some (.ref 86) → qm_get ls 2 = some (.int (qz x2)) → qm_get ls 6 = some (.int (qz u354030)) → qm_get ls 7 = some (.int (qz u355970)) → (0 ≤ u356026 ∧ u356026 ≤ 1) → qI σ356027 α356028 κ ρ → qFr [(86, 11), (86, 15), (86, 23)] [94, 95, 96, 119] σ α σ356027 α356028 → σ356027 86 6 = (σ324867 86 6) → σ356027 86 11 = ((σ 86 11) + 1) → qr_W (qe L xs vb) (d + 5) qx_e253 (fun r w' => ∃ σ' α', w' = qw σ' α' κ ρ ∧ qI σ' α' κ ρ ∧ qFr [(86, 11), (86, 15), (86, 23)] [94, 95, 96, 119] σ α σ' α' ∧ σ' 86 11 ≤ 60 ∧ ∃ v : Int, r = some (.int (qz v)) ∧ ((-2147483648) ≤ v ∧ v ≤ 2147483647)) (277, ls, [.int (qz u356026), .int (qz u355967)], qw σ356027 α356028 κ ρ, 0, 0) := by
                                intro ls u356026 σ356027 α356028 g356022 g356023 g356024 g356025 hf356033 hI356029 hF356030 hk356031 hk356032
                                refine qr_iadd 278 rfl rfl ?_
                                refine qy_can (fun v356035 hv356035 => ?_)
                                refine qr_istore _ 280 rfl (by decide) rfl rfl ?_
                                refine qr_iinc _ 283 rfl (qm_gk g356025 (by decide) (Or.inl (by decide))) (by decide) rfl rfl ?_
                                refine qr_goto 215 rfl rfl ?_
                                exact ih355980 _ v356035 (u355970 + 1) σ356027 α356028 (by omega) (qm_gk (qm_gk g356022 (by decide) (Or.inl (by decide))) (by decide) (Or.inl (by decide))) (qm_gk (qm_gk g356023 (by decide) (Or.inl (by decide))) (by decide) (Or.inl (by decide))) (qm_gk (qm_ge _ _ _) (by decide) (Or.inl (by decide))) (qm_gk (qm_gk g356024 (by decide) (Or.inl (by decide))) (by decide) (Or.inr rfl)) (qm_ge _ _ _) (by omega) (by omega) hI356029 hF356030 ((hk356031).trans rfl) ((hk356032).trans rfl)
                              refine qr_if_ne 276 240 rfl rfl rfl (by omega) (fun h356036 => ?_) (fun h356036 => ?_)
                              · skip
                                refine qr_iconst 277 rfl rfl ?_
                                exact hJ356034 _ 0 σ355971 α355972 g355964 g355965 g355968 g355969 (by omega) hI355973 hF355974 ((hk355975).trans rfl) ((hk355976).trans rfl)
                              · skip
                                refine qr_aload_n 241 rfl g355964 rfl ?_
                                refine qr_iload 243 rfl g355968 rfl ?_
                                refine qr_callN 246 rfl rfl rfl (sf_180_86 (d := d + 4) hI355973 (by omega)) ?_
                                rintro _ _ ⟨rfl, v356037, rfl, hv356037⟩
                                show qr_W (qe L xs vb) (d + 5) qx_e253 _ (246, _, [.int (qz v356037), .int (qz u355967)], qw σ355971 α355972 κ ρ, 0, 0)
                                refine qr_if_ne 276 249 rfl rfl rfl (by omega) (fun h356038 => ?_) (fun h356038 => ?_)
                                · skip
                                  refine qr_iconst 277 rfl rfl ?_
                                  exact hJ356034 _ 0 σ355971 α355972 g355964 g355965 g355968 g355969 (by omega) hI355973 hF355974 ((hk355975).trans rfl) ((hk355976).trans rfl)
                                · skip
                                  refine qr_aload_n 250 rfl g355964 rfl ?_
                                  refine qr_iload 252 rfl g355969 rfl ?_
                                  refine qr_callN 255 rfl rfl rfl (sf_180_86 (d := d + 4) hI355973 (by omega)) ?_
                                  rintro _ _ ⟨rfl, v356039, rfl, hv356039⟩
                                  show qr_W (qe L xs vb) (d + 5) qx_e253 _ (255, _, [.int (qz v356039), .int (qz u355967)], qw σ355971 α355972 κ ρ, 0, 0)
                                  refine qr_if_ne 276 258 rfl rfl rfl (by omega) (fun h356040 => ?_) (fun h356040 => ?_)
                                  · skip
                                    refine qr_iconst 277 rfl rfl ?_
                                    exact hJ356034 _ 0 σ355971 α355972 g355964 g355965 g355968 g355969 (by omega) hI355973 hF355974 ((hk355975).trans rfl) ((hk355976).trans rfl)
                                  · skip
                                    refine qr_aload_n 259 rfl g355964 rfl ?_
                                    refine qr_iload 261 rfl g355968 rfl ?_
                                    refine qr_iload 263 rfl g355969 rfl ?_
                                    refine qr_iload_n 264 rfl g355965 rfl ?_
                                    refine qr_callN 267 rfl rfl rfl (sf_194_86 (d := d + 0) hI355973 (by omega) (by omega) (by omega)) ?_
                                    rintro _ _ ⟨σ356042, α356043, rfl, hI356044, hG356045, v356041, rfl, hv356041⟩
                                    have hF356046 : qFr [(86, 11), (86, 15), (86, 23)] [94, 95, 96, 119] σ α σ356042 α356043 := qFr_t hF355974 hG356045 (by decide) (by decide)
                                    show qr_W (qe L xs vb) (d + 5) qx_e253 _ (267, _, [.int (qz v356041), .int (qz u355967)], qw σ356042 α356043 κ ρ, 0, 0)
                                    refine qr_bipush 269 rfl (by decide) rfl ?_
                                    refine qr_icmp_eq 276 272 rfl rfl rfl (by omega) (by omega) (fun h356047 => ?_) (fun h356047 => ?_)
                                    · skip
                                      refine qr_iconst 277 rfl rfl ?_
                                      exact hJ356034 _ 0 σ356042 α356043 g355964 g355965 g355968 g355969 (by omega) hI356044 hF356046 ((hG356045.1 86 6 (by decide)).trans ((hk355975).trans rfl)) ((hG356045.1 86 11 (by decide)).trans ((hk355976).trans rfl))
                                    · skip
                                      refine qr_iconst 273 rfl rfl ?_
                                      refine qr_goto 277 rfl rfl ?_
                                      exact hJ356034 _ 1 σ356042 α356043 g355964 g355965 g355968 g355969 (by omega) hI356044 hF356046 ((hG356045.1 86 6 (by decide)).trans ((hk355975).trans rfl)) ((hG356045.1 86 11 (by decide)).trans ((hk355976).trans rfl))
                        exact hL355979 ((31 - 0 + 1 : Int)).toNat _ u354028 0 σ354031 α354032 (by omega) (qm_gk g354025 (by decide) (Or.inl (by decide))) (qm_gk g354026 (by decide) (Or.inl (by decide))) (qm_gk g354027 (by decide) (Or.inl (by decide))) (qm_gk g354029 (by decide) (Or.inr rfl)) (qm_ge _ _ _) (by omega) (by omega) hI354033 hF354034 ((hk354035).trans rfl) ((hk354036).trans rfl)
                  exact hL354039 ((32 - 0 + 1 : Int)).toNat _ 0 0 σ326211 α326203 (by omega) (qm_gk (qm_gk g324859 (by decide) (Or.inl (by decide))) (by decide) (Or.inl (by decide))) (qm_gk (qm_gk g324861 (by decide) (Or.inl (by decide))) (by decide) (Or.inl (by decide))) (qm_gk (qm_ge _ _ _) (by decide) (Or.inr rfl)) (qm_ge _ _ _) (by omega) (by omega) hI326213 hF326214 ((congrFun (congrFun e326212 86) 6).trans ((congrFun (congrFun e326208 86) 6).trans rfl)) ((congrFun (congrFun e326212 86) 11).trans ((congrFun (congrFun e326208 86) 11).trans rfl))
                · skip
                  refine qr_iload 155 rfl g324863 rfl ?_
                  refine qr_retI rfl rfl (by decide) (by decide) ?_
                  exact ⟨_, _, rfl, hI324869, hF324870, (by have hw : σ324867 86 11 = (σ 86 11) := (hk324871).trans rfl; omega), u324864, rfl, by omega⟩
              · skip
                refine qr_iconst 58 rfl rfl ?_
                refine qr_istore _ 60 rfl (by decide) rfl rfl ?_
                have hL357297 : ∀ (n : Nat) (ls : qm_L) (u357285 u357288 : Int) (σ357289 α357290 : Nat → Nat → Int), 31 - u357288 < (n : Int) → qm_get ls 0 = some (.ref 86) → qm_get ls 1 = some (.int (qz x1)) → qm_get ls 2 = some (.int (qz x2)) → qm_get ls 3 = some (.int (qz x3)) → qm_get ls 4 = some (.int (qz u357285)) → qm_get ls 5 = some (.int (qz u324866)) → qm_get ls 6 = some (.int (qz u357288)) → ((-2147483648) ≤ u357285 ∧ u357285 ≤ 2147483647) → (0 ≤ u357288 ∧ u357288 ≤ 31) → qI σ357289 α357290 κ ρ → qFr [(86, 11), (86, 15), (86, 23)] [94, 95, 96, 119] σ α σ357289 α357290 → σ357289 86 6 = (σ324867 86 6) → σ357289 86 11 = (σ 86 11) → qr_W (qe L xs vb) (d + 5) qx_e253 (fun r w' => ∃ σ' α', w' = qw σ' α' κ ρ ∧ qI σ' α' κ ρ ∧ qFr [(86, 11), (86, 15), (86, 23)] [94, 95, 96, 119] σ α σ' α' ∧ σ' 86 11 ≤ 60 ∧ ∃ v : Int, r = some (.int (qz v)) ∧ ((-2147483648) ≤ v ∧ v ≤ 2147483647)) (60, ls, [], qw σ357289 α357290 κ ρ, 0, 0) := by
                  intro n
                  induction n with
                  | zero => intro ls u357285 u357288 σ357289 α357290 hm g357280 g357281 g357282 g357283 g357284 g357286 g357287 hf357295 hf357296 hI357291 hF357292 hk357293 hk357294; exact False.elim (by omega)
                  | succ n ih357298 =>
                    intro ls u357285 u357288 σ357289 α357290 hm g357280 g357281 g357282 g357283 g357284 g357286 g357287 hf357295 hf357296 hI357291 hF357292 hk357293 hk357294
                    refine qr_iload 62 rfl g357287 rfl ?_
                    refine qr_iload 64 rfl g357286 rfl ?_
                    refine qr_icmp_ge 142 67 rfl rfl rfl (by omega) (by omega) (fun h357340 => ?_) (fun h357340 => ?_)
                    · skip
                      refine qr_iinc _ 145 rfl g357286 (by decide) rfl rfl ?_
                      refine qr_goto 48 rfl rfl ?_
                      exact ih324875 _ u357285 (u324866 + 1) σ357289 α357290 (by omega) (qm_gk g357280 (by decide) (Or.inl (by decide))) (qm_gk g357281 (by decide) (Or.inl (by decide))) (qm_gk g357282 (by decide) (Or.inl (by decide))) (qm_gk g357283 (by decide) (Or.inl (by decide))) (qm_gk g357284 (by decide) (Or.inr rfl)) (qm_ge _ _ _) (by omega) (by omega) hI357291 hF357292 ((hk357294).trans rfl)
                    · skip
                      refine qr_aload_n 68 rfl g357280 rfl ?_
                      refine qr_iload 70 rfl g357286 rfl ?_
                      refine qr_callN 73 rfl rfl rfl (sf_180_86 (d := d + 4) hI357291 (by omega)) ?_
                      rintro _ _ ⟨rfl, v357341, rfl, hv357341⟩
                      show qr_W (qe L xs vb) (d + 5) qx_e253 _ (73, _, [.int (qz v357341)], qw σ357289 α357290 κ ρ, 0, 0)
                      have hJ357364 : ∀ (ls : qm_L) (u357356 : Int) (σ357357 α357358 : Nat → Nat → Int), qm_get ls 0 = some (.ref 86) → qm_get ls 1 = some (.int (qz x1)) → qm_get ls 2 = some (.int (qz x2)) → qm_get ls 3 = some (.int (qz x3)) → qm_get ls 4 = some (.int (qz u357285)) → qm_get ls 5 = some (.int (qz u324866)) → qm_get ls 6 = some (.int (qz u357288)) → (0 ≤ u357356 ∧ u357356 ≤ 1) → qI σ357357 α357358 κ ρ → qFr [(86, 11), (86, 15), (86, 23)] [94, 95, 96, 119] σ α σ357357 α357358 → σ357357 86 6 = (σ324867 86 6) → σ357357 86 11 = (σ 86 11) → qr_W (qe L xs vb) (d + 5) qx_e253 (fun r w' => ∃ σ' α', w' = qw σ' α' κ ρ ∧ qI σ' α' κ ρ ∧ qFr [(86, 11), (86, 15), (86, 23)] [94, 95, 96, 119] σ α σ' α' ∧ σ' 86 11 ≤ 60 ∧ ∃ v : Int, r = some (.int (qz v)) ∧ ((-2147483648) ≤ v ∧ v ≤ 2147483647)) (104, ls, [.int (qz u357356)], qw σ357357 α357358 κ ρ, 0, 0) := by
                        intro ls u357356 σ357357 α357358 g357349 g357350 g357351 g357352 g357353 g357354 g357355 hf357363 hI357359 hF357360 hk357361 hk357362
                        refine qr_istore _ 106 rfl (by decide) rfl rfl ?_
                        refine qr_aload_n 107 rfl (qm_gk g357349 (by decide) (Or.inl (by decide))) rfl ?_
                        refine qr_get 110 rfl rfl rfl (by decide) rfl ?_
                        refine qr_bipush 112 rfl (by decide) rfl ?_
                        refine qr_iload 114 rfl (qm_gk g357354 (by decide) (Or.inl (by decide))) rfl ?_
                        refine qr_imul 115 rfl rfl ?_
                        refine qr_iload 117 rfl (qm_gk g357355 (by decide) (Or.inr rfl)) rfl ?_
                        refine qr_iadd 118 rfl rfl ?_
                        refine qr_iload 120 rfl (qm_ge _ _ _) rfl ?_
                        refine qr_bastore 121 rfl (by decide) rfl (by omega) (by decide) (by omega) rfl ?_
                        refine qy_wA (qw_r α357358 119 (qzu (α357358 119) (((32 * u324866) + u357288) : Int).toNat u357356)) rfl (fun α357365 e357366 => ?_)
                        have hI357367 : qI σ357357 α357365 κ ρ := by rw [e357366]; exact qI_r hI357359 119 _ rfl (show 0 ≤ u357356 ∧ u357356 ≤ 1 by omega)
                        have hF357368 : qFr [(86, 11), (86, 15), (86, 23)] [94, 95, 96, 119] σ α σ357357 α357365 := by rw [e357366]; exact qFr_r hF357360 119 _ (by decide)
                        refine qr_iload 123 rfl (qm_gk g357353 (by decide) (Or.inl (by decide))) rfl ?_
                        refine qr_iload 125 rfl (qm_ge _ _ _) rfl ?_
                        have hJ357377 : ∀ (ls : qm_L) (u357375 : Int), qm_get ls 0 = some (.ref 86) → qm_get ls 1 = some (.int (qz x1)) → qm_get ls 2 = some (.int (qz x2)) → qm_get ls 3 = some (.int (qz x3)) → qm_get ls 5 = some (.int (qz u324866)) → qm_get ls 6 = some (.int (qz u357288)) → (0 ≤ u357375 ∧ u357375 ≤ 1) → qr_W (qe L xs vb) (d + 5) qx_e253 (fun r w' => ∃ σ' α', w' = qw σ' α' κ ρ ∧ qI σ' α' κ ρ ∧ qFr [(86, 11), (86, 15), (86, 23)] [94, 95, 96, 119] σ α σ' α' ∧ σ' 86 11 ≤ 60 ∧ ∃ v : Int, r = some (.int (qz v)) ∧ ((-2147483648) ≤ v ∧ v ≤ 2147483647)) (133, ls, [.int (qz u357375), .int (qz u357285)], qw σ357357 α357365 κ ρ, 0, 0) := by
                          intro ls u357375 g357369 g357370 g357371 g357372 g357373 g357374 hf357376
                          refine qr_iadd 134 rfl rfl ?_
                          refine qy_can (fun v357378 hv357378 => ?_)
                          refine qr_istore _ 136 rfl (by decide) rfl rfl ?_
                          refine qr_iinc _ 139 rfl (qm_gk g357374 (by decide) (Or.inl (by decide))) (by decide) rfl rfl ?_
                          refine qr_goto 60 rfl rfl ?_
                          exact ih357298 _ v357378 (u357288 + 1) σ357357 α357365 (by omega) (qm_gk (qm_gk g357369 (by decide) (Or.inl (by decide))) (by decide) (Or.inl (by decide))) (qm_gk (qm_gk g357370 (by decide) (Or.inl (by decide))) (by decide) (Or.inl (by decide))) (qm_gk (qm_gk g357371 (by decide) (Or.inl (by decide))) (by decide) (Or.inl (by decide))) (qm_gk (qm_gk g357372 (by decide) (Or.inr rfl)) (by decide) (Or.inl (by decide))) (qm_gk (qm_ge _ _ _) (by decide) (Or.inl (by decide))) (qm_gk (qm_gk g357373 (by decide) (Or.inl (by decide))) (by decide) (Or.inr rfl)) (qm_ge _ _ _) (by omega) (by omega) hI357367 hF357368 ((hk357361).trans rfl) ((hk357362).trans rfl)
                        refine qr_if_eq 132 128 rfl rfl rfl (by omega) (fun h357379 => ?_) (fun h357379 => ?_)
                        · skip
                          refine qr_iconst 133 rfl rfl ?_
                          exact hJ357377 _ 0 (qm_gk g357349 (by decide) (Or.inl (by decide))) (qm_gk g357350 (by decide) (Or.inl (by decide))) (qm_gk g357351 (by decide) (Or.inl (by decide))) (qm_gk g357352 (by decide) (Or.inl (by decide))) (qm_gk g357354 (by decide) (Or.inl (by decide))) (qm_gk g357355 (by decide) (Or.inr rfl)) (by omega)
                        · skip
                          refine qr_iconst 129 rfl rfl ?_
                          refine qr_goto 133 rfl rfl ?_
                          exact hJ357377 _ 1 (qm_gk g357349 (by decide) (Or.inl (by decide))) (qm_gk g357350 (by decide) (Or.inl (by decide))) (qm_gk g357351 (by decide) (Or.inl (by decide))) (qm_gk g357352 (by decide) (Or.inl (by decide))) (qm_gk g357354 (by decide) (Or.inl (by decide))) (qm_gk g357355 (by decide) (Or.inr rfl)) (by omega)
                      refine qr_if_ne 103 76 rfl rfl rfl (by omega) (fun h357380 => ?_) (fun h357380 => ?_)
                      · skip
                        refine qr_iconst 104 rfl rfl ?_
                        exact hJ357364 _ 0 σ357289 α357290 g357280 g357281 g357282 g357283 g357284 g357286 g357287 (by omega) hI357291 hF357292 ((hk357293).trans rfl) ((hk357294).trans rfl)
                      · skip
                        refine qr_aload_n 77 rfl g357280 rfl ?_
                        refine qr_iload 79 rfl g357287 rfl ?_
                        refine qr_callN 82 rfl rfl rfl (sf_180_86 (d := d + 4) hI357291 (by omega)) ?_
                        rintro _ _ ⟨rfl, v357381, rfl, hv357381⟩
                        show qr_W (qe L xs vb) (d + 5) qx_e253 _ (82, _, [.int (qz v357381)], qw σ357289 α357290 κ ρ, 0, 0)
                        refine qr_if_ne 103 85 rfl rfl rfl (by omega) (fun h357382 => ?_) (fun h357382 => ?_)
                        · skip
                          refine qr_iconst 104 rfl rfl ?_
                          exact hJ357364 _ 0 σ357289 α357290 g357280 g357281 g357282 g357283 g357284 g357286 g357287 (by omega) hI357291 hF357292 ((hk357293).trans rfl) ((hk357294).trans rfl)
                        · skip
                          refine qr_aload_n 86 rfl g357280 rfl ?_
                          refine qr_iload 88 rfl g357286 rfl ?_
                          refine qr_iload 90 rfl g357287 rfl ?_
                          refine qr_iload_n 91 rfl g357282 rfl ?_
                          refine qr_callN 94 rfl rfl rfl (sf_194_86 (d := d + 0) hI357291 (by omega) (by omega) (by omega)) ?_
                          rintro _ _ ⟨σ357384, α357385, rfl, hI357386, hG357387, v357383, rfl, hv357383⟩
                          have hF357388 : qFr [(86, 11), (86, 15), (86, 23)] [94, 95, 96, 119] σ α σ357384 α357385 := qFr_t hF357292 hG357387 (by decide) (by decide)
                          show qr_W (qe L xs vb) (d + 5) qx_e253 _ (94, _, [.int (qz v357383)], qw σ357384 α357385 κ ρ, 0, 0)
                          refine qr_bipush 96 rfl (by decide) rfl ?_
                          refine qr_icmp_eq 103 99 rfl rfl rfl (by omega) (by omega) (fun h357389 => ?_) (fun h357389 => ?_)
                          · skip
                            refine qr_iconst 104 rfl rfl ?_
                            exact hJ357364 _ 0 σ357384 α357385 g357280 g357281 g357282 g357283 g357284 g357286 g357287 (by omega) hI357386 hF357388 ((hG357387.1 86 6 (by decide)).trans ((hk357293).trans rfl)) ((hG357387.1 86 11 (by decide)).trans ((hk357294).trans rfl))
                          · skip
                            refine qr_iconst 100 rfl rfl ?_
                            refine qr_goto 104 rfl rfl ?_
                            exact hJ357364 _ 1 σ357384 α357385 g357280 g357281 g357282 g357283 g357284 g357286 g357287 (by omega) hI357386 hF357388 ((hG357387.1 86 6 (by decide)).trans ((hk357293).trans rfl)) ((hG357387.1 86 11 (by decide)).trans ((hk357294).trans rfl))
                exact hL357297 ((31 - 0 + 1 : Int)).toNat _ u324864 0 σ324867 α324868 (by omega) (qm_gk g324859 (by decide) (Or.inl (by decide))) (qm_gk g324860 (by decide) (Or.inl (by decide))) (qm_gk g324861 (by decide) (Or.inl (by decide))) (qm_gk g324862 (by decide) (Or.inl (by decide))) (qm_gk g324863 (by decide) (Or.inl (by decide))) (qm_gk g324865 (by decide) (Or.inr rfl)) (qm_ge _ _ _) (by omega) (by omega) hI324869 hF324870 (rfl) ((hk324871).trans rfl)
          exact hL324874 ((32 - 0 + 1 : Int)).toNat _ 0 0 σ α (by omega) rfl rfl rfl rfl rfl rfl (by omega) (by omega) hI hF0 (rfl)
        · skip
          refine qr_iconst 41 rfl rfl ?_
          refine qr_retI rfl rfl (by decide) (by decide) ?_
          exact ⟨_, _, rfl, hI, hF0, (by have hw : σ 86 11 = (σ 86 11) := rfl; omega), (-1), rfl, by omega⟩

