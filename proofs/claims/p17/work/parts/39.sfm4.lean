def qSf (f : Nat → Int) : Nat → Int
  | 0 => 0
  | n + 1 => qSf f n + f n
def qS (α : Nat → Nat → Int) : Int := qSf (α 96) 1024
theorem qSf_lo (f : Nat → Int) (i : Nat) (v : Int) : ∀ n, n ≤ i → qSf (qzu f i v) n = qSf f n
  | 0, _ => rfl
  | n + 1, h => by
    show qSf (qzu f i v) n + qzu f i v n = qSf f n + f n
    rw [qSf_lo f i v n (by omega)]
    unfold qzu
    rw [if_neg (by omega)]
theorem qSf_u (f : Nat → Int) (i : Nat) (v : Int) : ∀ n, i < n → qSf (qzu f i v) n + f i = qSf f n + v
  | 0, h => absurd h (Nat.not_lt_zero _)
  | n + 1, h => by
    show qSf (qzu f i v) n + qzu f i v n + f i = qSf f n + f n + v
    by_cases e : i = n
    · subst e
      rw [qSf_lo f i v i (Nat.le_refl _)]
      unfold qzu
      rw [if_pos rfl]
      omega
    · have h1 := qSf_u f i v n (by omega)
      have h2 : qzu f i v n = f n := by unfold qzu; rw [if_neg (by omega)]
      rw [h2]
      omega
theorem qS_u (α : Nat → Nat → Int) (i : Nat) (v : Int) (h : i < 1024) : qS (qw_r α 96 (qzu (α 96) i v)) + α 96 i = qS α + v := by
  unfold qS
  rw [qw_r_eq]
  exact qSf_u _ _ _ _ h
theorem qSf_nn (f : Nat → Int) : ∀ n, (∀ j, j < n → 0 ≤ f j) → 0 ≤ qSf f n
  | 0, _ => Int.le_refl 0
  | n + 1, h => by
    have h1 := qSf_nn f n (fun j hj => h j (by omega))
    have h2 := h n (by omega)
    show 0 ≤ qSf f n + f n
    omega
theorem qS_nn {σ α : Nat → Nat → Int} {κ : Nat → Option Nat} {ρ : Nat} (h : qI σ α κ ρ) : 0 ≤ qS α := qSf_nn _ _ (fun j hj => (h.2.1 96 j hj).1)

set_option maxHeartbeats 4000000 in
set_option maxRecDepth 20000 in
/-- OneRoofModel.nearer -/
theorem sf_188_86s {L : Nat} {xs : Nat → Int} {vb : Bool} {d : Nat} {σ α : Nat → Nat → Int} {κ : Nat → Option Nat} {ρ : Nat} {x1 : Int} {x2 : Int} (hI : qI σ α κ ρ) (r1 : 0 ≤ x1 ∧ x1 ≤ 31) (r2 : 0 ≤ x2 ∧ x2 ≤ 31) : qm_T (qe L xs vb) (d + 1) 188 [.ref 86, .int (qz x1), .int (qz x2)] (qw σ α κ ρ) (fun r w' => ∃ α', w' = qw σ α' κ ρ ∧ qI σ α' κ ρ ∧ qFr [] [96] σ α σ α' ∧ ∃ v : Int, r = some (.int (qz v)) ∧ (0 ≤ v ∧ v ≤ 1) ∧ (qS α' ≤ qS α ∧ (v = 1 → qS α' < qS α))) := by
  refine qr_start (d := d + 0) qv_e188 (Nat.le_of_ble_eq_true rfl) ?_
  show qr_W (qe L xs vb) (d + 0) qx_e188 _ (0, [(0, .ref 86), (1, .int (qz x1)), (2, .int (qz x2))], [], _, 0, 0)
  have hF0 := qFr_rf [] [96] σ α
  refine qr_iconst 1 rfl rfl ?_
  refine qr_istore_n _ 2 rfl (by decide) rfl rfl ?_
  refine qr_iconst 3 rfl rfl ?_
  refine qr_istore _ 5 rfl (by decide) rfl rfl ?_
  have hL450 : ∀ (n : Nat) (ls : qm_L) (u440 u442 : Int) (α444 : Nat → Nat → Int), 32 - u442 < (n : Int) → qm_get ls 0 = some (.ref 86) → qm_get ls 1 = some (.int (qz x1)) → qm_get ls 2 = some (.int (qz x2)) → qm_get ls 3 = some (.int (qz u440)) → qm_get ls 4 = some (.int (qz u442)) → (0 ≤ u440 ∧ u440 ≤ 1) → (0 ≤ u442 ∧ u442 ≤ 32) → qI σ α444 κ ρ → qFr [] [96] σ α σ α444 → (qS α444 ≤ qS α ∧ (u440 = 1 → qS α444 < qS α)) → qr_W (qe L xs vb) (d + 0) qx_e188 (fun r w' => ∃ α', w' = qw σ α' κ ρ ∧ qI σ α' κ ρ ∧ qFr [] [96] σ α σ α' ∧ ∃ v : Int, r = some (.int (qz v)) ∧ (0 ≤ v ∧ v ≤ 1) ∧ (qS α' ≤ qS α ∧ (v = 1 → qS α' < qS α))) (5, ls, [], qw σ α444 κ ρ, 0, 0) := by
    intro n
    induction n with
    | zero => intro ls u440 u442 α444 hm g436 g437 g438 g439 g441 hf447 hf448 hI445 hF446 hx449; exact False.elim (by omega)
    | succ n ih451 =>
      intro ls u440 u442 α444 hm g436 g437 g438 g439 g441 hf447 hf448 hI445 hF446 hx449
      refine qr_iload 7 rfl g441 rfl ?_
      refine qr_aload_n 8 rfl g436 rfl ?_
      refine qr_get 11 rfl rfl rfl (by decide) rfl ?_
      have hs452 : 0 ≤ σ 86 6 ∧ σ 86 6 ≤ 32 := hI445.1 86 6
      refine qr_icmp_ge 69 14 rfl rfl rfl (by omega) (by omega) (fun h453 => ?_) (fun h453 => ?_)
      · skip
        refine qr_iload_n 70 rfl g439 rfl ?_
        refine qr_retZ rfl rfl (by omega) (by decide) (by decide) ?_
        exact ⟨_, rfl, hI445, hF446, u440, rfl, by omega, by omega⟩
      · skip
        refine qr_aload_n 15 rfl g436 rfl ?_
        refine qr_get 18 rfl rfl rfl (by decide) rfl ?_
        refine qr_bipush 20 rfl (by decide) rfl ?_
        refine qr_iload 22 rfl g441 rfl ?_
        refine qr_imul 23 rfl rfl ?_
        refine qr_iload_n 24 rfl g437 rfl ?_
        refine qr_iadd 25 rfl rfl ?_
        refine qr_iaload 26 rfl rfl (by omega) (by decide) rfl ?_
        refine qr_topI (fun v454 hv454 => ?_)
        have hs455 : 0 ≤ v454 ∧ v454 ≤ 99 := by rw [hv454]; exact hI445.2.1 96 _ (show _ < 1024 by omega)
        refine qr_iconst 27 rfl rfl ?_
        refine qr_iadd 28 rfl rfl ?_
        refine qr_istore _ 30 rfl (by decide) rfl rfl ?_
        refine qr_iload 32 rfl (qm_ge _ _ _) rfl ?_
        refine qr_aload_n 33 rfl (qm_gk g436 (by decide) (Or.inl (by decide))) rfl ?_
        refine qr_get 36 rfl rfl rfl (by decide) rfl ?_
        refine qr_bipush 38 rfl (by decide) rfl ?_
        refine qr_iload 40 rfl (qm_gk g441 (by decide) (Or.inr rfl)) rfl ?_
        refine qr_imul 41 rfl rfl ?_
        refine qr_iload_n 42 rfl (qm_gk g438 (by decide) (Or.inl (by decide))) rfl ?_
        refine qr_iadd 43 rfl rfl ?_
        refine qr_iaload 44 rfl rfl (by omega) (by decide) rfl ?_
        refine qr_topI (fun v456 hv456 => ?_)
        have hs457 : 0 ≤ v456 ∧ v456 ≤ 99 := by rw [hv456]; exact hI445.2.1 96 _ (show _ < 1024 by omega)
        have hJ475 : ∀ (ls : qm_L) (u467 : Int) (α470 : Nat → Nat → Int), qm_get ls 0 = some (.ref 86) → qm_get ls 1 = some (.int (qz x1)) → qm_get ls 2 = some (.int (qz x2)) → qm_get ls 3 = some (.int (qz u467)) → qm_get ls 4 = some (.int (qz u442)) → (0 ≤ u467 ∧ u467 ≤ 1) → qI σ α470 κ ρ → qFr [] [96] σ α σ α470 → (qS α470 ≤ qS α ∧ (u467 = 1 → qS α470 < qS α)) → qr_W (qe L xs vb) (d + 0) qx_e188 (fun r w' => ∃ α', w' = qw σ α' κ ρ ∧ qI σ α' κ ρ ∧ qFr [] [96] σ α σ α' ∧ ∃ v : Int, r = some (.int (qz v)) ∧ (0 ≤ v ∧ v ≤ 1) ∧ (qS α' ≤ qS α ∧ (v = 1 → qS α' < qS α))) (63, ls, [], qw σ α470 κ ρ, 0, 0) := by
          intro ls u467 α470 g463 g464 g465 g466 g468 hf473 hI471 hF472 hx474
          refine qr_iinc _ 66 rfl g468 (by decide) rfl rfl ?_
          refine qr_goto 5 rfl rfl ?_
          exact ih451 _ u467 (u442 + 1) α470 (by omega) (qm_gk g463 (by decide) (Or.inl (by decide))) (qm_gk g464 (by decide) (Or.inl (by decide))) (qm_gk g465 (by decide) (Or.inl (by decide))) (qm_gk g466 (by decide) (Or.inr rfl)) (qm_ge _ _ _) (by omega) (by omega) hI471 hF472 (by omega)
        refine qr_icmp_ge 63 47 rfl rfl rfl (by omega) (by omega) (fun h476 => ?_) (fun h476 => ?_)
        · skip
          exact hJ475 _ u440 α444 (qm_gk g436 (by decide) (Or.inl (by decide))) (qm_gk g437 (by decide) (Or.inl (by decide))) (qm_gk g438 (by decide) (Or.inl (by decide))) (qm_gk g439 (by decide) (Or.inl (by decide))) (qm_gk g441 (by decide) (Or.inr rfl)) (by omega) hI445 hF446 (by omega)
        · skip
          refine qr_aload_n 48 rfl (qm_gk g436 (by decide) (Or.inl (by decide))) rfl ?_
          refine qr_get 51 rfl rfl rfl (by decide) rfl ?_
          refine qr_bipush 53 rfl (by decide) rfl ?_
          refine qr_iload 55 rfl (qm_gk g441 (by decide) (Or.inr rfl)) rfl ?_
          refine qr_imul 56 rfl rfl ?_
          refine qr_iload_n 57 rfl (qm_gk g438 (by decide) (Or.inl (by decide))) rfl ?_
          refine qr_iadd 58 rfl rfl ?_
          refine qr_iload 60 rfl (qm_ge _ _ _) rfl ?_
          refine qr_iastore 61 rfl (by decide) rfl (by omega) (by decide) rfl ?_
          refine qy_wA (qw_r α444 96 (qzu (α444 96) (((32 * u442) + x2) : Int).toNat (v454 + 1))) rfl (fun α477 e478 => ?_)
          have hI479 : qI σ α477 κ ρ := by rw [e478]; exact qI_r hI445 96 _ rfl (show 0 ≤ (v454 + 1) ∧ (v454 + 1) ≤ 99 by omega)
          have hF480 : qFr [] [96] σ α σ α477 := by rw [e478]; exact qFr_r hF446 96 _ (by decide)
          have hq481 := qS_u α444 (((32 * u442) + x2) : Int).toNat ((v454 + 1)) (by omega)
          rw [← e478] at hq481
          refine qr_iconst 62 rfl rfl ?_
          refine qr_istore_n _ 63 rfl (by decide) rfl rfl ?_
          exact hJ475 _ 1 α477 (qm_gk (qm_gk g436 (by decide) (Or.inl (by decide))) (by decide) (Or.inl (by decide))) (qm_gk (qm_gk g437 (by decide) (Or.inl (by decide))) (by decide) (Or.inl (by decide))) (qm_gk (qm_gk g438 (by decide) (Or.inl (by decide))) (by decide) (Or.inr rfl)) (qm_ge _ _ _) (qm_gk (qm_gk g441 (by decide) (Or.inr rfl)) (by decide) (Or.inl (by decide))) (by omega) hI479 hF480 (by omega)
  exact hL450 ((32 - 0 + 1 : Int)).toNat _ 0 0 α (by omega) rfl rfl rfl rfl rfl (by omega) (by omega) hI hF0 (by omega)

set_option maxHeartbeats 4000000 in
set_option maxRecDepth 20000 in
/-- OneRoofModel.findSteps -/
theorem sf_187_86 {L : Nat} {xs : Nat → Int} {vb : Bool} {d : Nat} {σ α : Nat → Nat → Int} {κ : Nat → Option Nat} {ρ : Nat}  (hI : qI σ α κ ρ)  : qm_T (qe L xs vb) (d + 2) 187 [.ref 86] (qw σ α κ ρ) (fun r w' => ∃ σ' α', w' = qw σ' α' κ ρ ∧ qI σ' α' κ ρ ∧ qFr [(86, 15)] [96] σ α σ' α' ∧ r = none) := by
  refine qr_start (d := d + 1) qv_e187 (Nat.le_of_ble_eq_true rfl) ?_
  show qr_W (qe L xs vb) (d + 1) qx_e187 _ (0, [(0, .ref 86)], [], _, 0, 0)
  have hF0 := qFr_rf [(86, 15)] [96] σ α
  refine qr_iconst 1 rfl rfl ?_
  refine qr_istore_n _ 2 rfl (by decide) rfl rfl ?_
  have hL138346 : ∀ (n : Nat) (ls : qm_L) (u138340 : Int) (α138342 : Nat → Nat → Int), 32 - u138340 < (n : Int) → qm_get ls 0 = some (.ref 86) → qm_get ls 1 = some (.int (qz u138340)) → (0 ≤ u138340 ∧ u138340 ≤ 32) → qI σ α138342 κ ρ → qFr [(86, 15)] [96] σ α σ α138342 → qr_W (qe L xs vb) (d + 1) qx_e187 (fun r w' => ∃ σ' α', w' = qw σ' α' κ ρ ∧ qI σ' α' κ ρ ∧ qFr [(86, 15)] [96] σ α σ' α' ∧ r = none) (2, ls, [], qw σ α138342 κ ρ, 0, 0) := by
    intro n
    induction n with
    | zero => intro ls u138340 α138342 hm g138338 g138339 hf138345 hI138343 hF138344; exact False.elim (by omega)
    | succ n ih138347 =>
      intro ls u138340 α138342 hm g138338 g138339 hf138345 hI138343 hF138344
      refine qr_iload_n 3 rfl g138339 rfl ?_
      refine qr_aload_n 4 rfl g138338 rfl ?_
      refine qr_get 7 rfl rfl rfl (by decide) rfl ?_
      have hs138348 : 0 ≤ σ 86 6 ∧ σ 86 6 ≤ 32 := hI138343.1 86 6
      refine qr_icmp_ge 54 10 rfl rfl rfl (by omega) (by omega) (fun h138661 => ?_) (fun h138661 => ?_)
      · skip
        refine qr_iconst 55 rfl rfl ?_
        refine qr_istore_n _ 56 rfl (by decide) rfl rfl ?_
        have hL145831 : ∀ (n : Nat) (ls : qm_L) (u145825 : Int) (α145827 : Nat → Nat → Int), ((2 * qS α145827 + u145825).toNat : Int) < (n : Int) → qm_get ls 0 = some (.ref 86) → qm_get ls 1 = some (.int (qz u145825)) → (0 ≤ u145825 ∧ u145825 ≤ 1) → qI σ α145827 κ ρ → qFr [(86, 15)] [96] σ α σ α145827 → qr_W (qe L xs vb) (d + 1) qx_e187 (fun r w' => ∃ σ' α', w' = qw σ' α' κ ρ ∧ qI σ' α' κ ρ ∧ qFr [(86, 15)] [96] σ α σ' α' ∧ r = none) (56, ls, [], qw σ α145827 κ ρ, 0, 0) := by
          intro n
          induction n with
          | zero => intro ls u145825 α145827 hm g145823 g145824 hf145830 hI145828 hF145829; exact False.elim (by omega)
          | succ n ih145832 =>
            intro ls u145825 α145827 hm g145823 g145824 hf145830 hI145828 hF145829
            have hq145833 := qS_nn hI145828
            refine qr_iload_n 57 rfl g145824 rfl ?_
            refine qr_if_eq 139 60 rfl rfl rfl (by omega) (fun h145834 => ?_) (fun h145834 => ?_)
            · skip
              refine qr_aload_n 140 rfl g145823 rfl ?_
              refine qr_iconst 141 rfl rfl ?_
              refine qr_put 144 rfl (by decide) rfl (Nat.le_of_ble_eq_true rfl) (Nat.le_of_ble_eq_true rfl) (Or.inl rfl) (qr_fitZ rfl (by omega)) rfl ?_
              refine qy_wS (qw_s σ 86 15 1) rfl (fun σ145835 e145836 => ?_)
              have hI145837 : qI σ145835 α145827 κ ρ := by rw [e145836]; exact qI_s hI145828 86 15 rfl (show 0 ≤ 1 ∧ 1 ≤ 1 by omega)
              have hF145838 : qFr [(86, 15)] [96] σ α σ145835 α145827 := by rw [e145836]; exact qFr_s hF145829 86 15 _ (by decide)
              refine qr_retV rfl rfl (by decide) (by decide) ?_
              exact ⟨_, _, rfl, hI145837, hF145838, rfl⟩
            · skip
              refine qr_iconst 61 rfl rfl ?_
              refine qr_istore_n _ 62 rfl (by decide) rfl rfl ?_
              refine qr_iconst 63 rfl rfl ?_
              refine qr_istore_n _ 64 rfl (by decide) rfl rfl ?_
              have hL147219 : ∀ (n : Nat) (ls : qm_L) (u147209 u147211 : Int) (α147213 : Nat → Nat → Int), 60 - u147211 < (n : Int) → qm_get ls 0 = some (.ref 86) → qm_get ls 1 = some (.int (qz u147209)) → qm_get ls 2 = some (.int (qz u147211)) → (0 ≤ u147209 ∧ u147209 ≤ 1) → (0 ≤ u147211 ∧ u147211 ≤ 60) → qI σ α147213 κ ρ → qFr [(86, 15)] [96] σ α σ α147213 → (qS α147213 ≤ qS α145827 ∧ (u147209 = 1 → qS α147213 < qS α145827)) → qr_W (qe L xs vb) (d + 1) qx_e187 (fun r w' => ∃ σ' α', w' = qw σ' α' κ ρ ∧ qI σ' α' κ ρ ∧ qFr [(86, 15)] [96] σ α σ' α' ∧ r = none) (64, ls, [], qw σ α147213 κ ρ, 0, 0) := by
                intro n
                induction n with
                | zero => intro ls u147209 u147211 α147213 hm g147207 g147208 g147210 hf147216 hf147217 hI147214 hF147215 hx147218; exact False.elim (by omega)
                | succ n ih147220 =>
                  intro ls u147209 u147211 α147213 hm g147207 g147208 g147210 hf147216 hf147217 hI147214 hF147215 hx147218
                  refine qr_iload_n 65 rfl g147210 rfl ?_
                  refine qr_aload_n 66 rfl g147207 rfl ?_
                  refine qr_get 69 rfl rfl rfl (by decide) rfl ?_
                  have hs147221 : 0 ≤ σ 86 11 ∧ σ 86 11 ≤ 60 := hI147214.1 86 11
                  refine qr_icmp_ge 136 72 rfl rfl rfl (by omega) (by omega) (fun h147248 => ?_) (fun h147248 => ?_)
                  · skip
                    refine qr_goto 56 rfl rfl ?_
                    exact ih145832 _ u147209 α147213 (by omega) g147207 g147208 (by omega) hI147214 hF147215
                  · skip
                    refine qr_aload_n 73 rfl g147207 rfl ?_
                    refine qr_aload_n 74 rfl g147207 rfl ?_
                    refine qr_get 77 rfl rfl rfl (by decide) rfl ?_
                    refine qr_iload_n 78 rfl g147210 rfl ?_
                    refine qr_iaload 79 rfl rfl (by omega) (by decide) rfl ?_
                    refine qr_topI (fun v147249 hv147249 => ?_)
                    have hs147250 : 0 ≤ v147249 ∧ v147249 ≤ 31 := by rw [hv147249]; exact hI147214.2.1 94 _ (show _ < 61 by omega)
                    refine qr_aload_n 80 rfl g147207 rfl ?_
                    refine qr_get 83 rfl rfl rfl (by decide) rfl ?_
                    refine qr_iload_n 84 rfl g147210 rfl ?_
                    refine qr_iaload 85 rfl rfl (by omega) (by decide) rfl ?_
                    refine qr_topI (fun v147251 hv147251 => ?_)
                    have hs147252 : 0 ≤ v147251 ∧ v147251 ≤ 31 := by rw [hv147251]; exact hI147214.2.1 95 _ (show _ < 61 by omega)
                    refine qr_callN 88 rfl rfl rfl (sf_188_86s (d := d + 0) hI147214 (by omega) (by omega)) ?_
                    rintro _ _ ⟨α147255, rfl, hI147256, hG147257, v147253, rfl, hv147253, hp147254⟩
                    have hF147258 : qFr [(86, 15)] [96] σ α σ α147255 := qFr_t hF147215 hG147257 (by decide) (by decide)
                    show qr_W (qe L xs vb) (d + 1) qx_e187 _ (88, _, [.int (qz v147253)], qw σ α147255 κ ρ, 0, 0)
                    have hJ147264 : ∀ (ls : qm_L) (u147261 : Int), qm_get ls 0 = some (.ref 86) → qm_get ls 2 = some (.int (qz u147211)) → (0 ≤ u147261 ∧ u147261 ≤ 1) → (u147261 = 1 → qS α147255 < qS α145827) → qr_W (qe L xs vb) (d + 1) qx_e187 (fun r w' => ∃ σ' α', w' = qw σ' α' κ ρ ∧ qI σ' α' κ ρ ∧ qFr [(86, 15)] [96] σ α σ' α' ∧ r = none) (100, ls, [.int (qz u147261)], qw σ α147255 κ ρ, 0, 0) := by
                      intro ls u147261 g147259 g147260 hf147262 hx147263
                      refine qr_istore_n _ 101 rfl (by decide) rfl rfl ?_
                      refine qr_aload_n 102 rfl (qm_gk g147259 (by decide) (Or.inr rfl)) rfl ?_
                      refine qr_aload_n 103 rfl (qm_gk g147259 (by decide) (Or.inr rfl)) rfl ?_
                      refine qr_get 106 rfl rfl rfl (by decide) rfl ?_
                      refine qr_iload_n 107 rfl (qm_gk g147260 (by decide) (Or.inl (by decide))) rfl ?_
                      refine qr_iaload 108 rfl rfl (by omega) (by decide) rfl ?_
                      refine qr_topI (fun v147265 hv147265 => ?_)
                      have hs147266 : 0 ≤ v147265 ∧ v147265 ≤ 31 := by rw [hv147265]; exact hI147256.2.1 95 _ (show _ < 61 by omega)
                      refine qr_aload_n 109 rfl (qm_gk g147259 (by decide) (Or.inr rfl)) rfl ?_
                      refine qr_get 112 rfl rfl rfl (by decide) rfl ?_
                      refine qr_iload_n 113 rfl (qm_gk g147260 (by decide) (Or.inl (by decide))) rfl ?_
                      refine qr_iaload 114 rfl rfl (by omega) (by decide) rfl ?_
                      refine qr_topI (fun v147267 hv147267 => ?_)
                      have hs147268 : 0 ≤ v147267 ∧ v147267 ≤ 31 := by rw [hv147267]; exact hI147256.2.1 94 _ (show _ < 61 by omega)
                      refine qr_callN 117 rfl rfl rfl (sf_188_86s (d := d + 0) hI147256 (by omega) (by omega)) ?_
                      rintro _ _ ⟨α147271, rfl, hI147272, hG147273, v147269, rfl, hv147269, hp147270⟩
                      have hF147274 : qFr [(86, 15)] [96] σ α σ α147271 := qFr_t hF147258 hG147273 (by decide) (by decide)
                      show qr_W (qe L xs vb) (d + 1) qx_e187 _ (117, _, [.int (qz v147269)], qw σ α147271 κ ρ, 0, 0)
                      have hJ147280 : ∀ (ls : qm_L) (u147277 : Int), qm_get ls 0 = some (.ref 86) → qm_get ls 2 = some (.int (qz u147211)) → (0 ≤ u147277 ∧ u147277 ≤ 1) → (u147277 = 1 → qS α147271 < qS α145827) → qr_W (qe L xs vb) (d + 1) qx_e187 (fun r w' => ∃ σ' α', w' = qw σ' α' κ ρ ∧ qI σ' α' κ ρ ∧ qFr [(86, 15)] [96] σ α σ' α' ∧ r = none) (129, ls, [.int (qz u147277)], qw σ α147271 κ ρ, 0, 0) := by
                        intro ls u147277 g147275 g147276 hf147278 hx147279
                        refine qr_istore_n _ 130 rfl (by decide) rfl rfl ?_
                        refine qr_iinc _ 133 rfl (qm_gk g147276 (by decide) (Or.inl (by decide))) (by decide) rfl rfl ?_
                        refine qr_goto 64 rfl rfl ?_
                        exact ih147220 _ u147277 (u147211 + 1) α147271 (by omega) (qm_gk (qm_gk g147275 (by decide) (Or.inr rfl)) (by decide) (Or.inl (by decide))) (qm_gk (qm_ge _ _ _) (by decide) (Or.inr rfl)) (qm_ge _ _ _) (by omega) (by omega) hI147272 hF147274 (by omega)
                      refine qr_if_ne 124 120 rfl rfl rfl (by omega) (fun h147281 => ?_) (fun h147281 => ?_)
                      · skip
                        refine qr_iconst 125 rfl rfl ?_
                        refine qr_goto 129 rfl rfl ?_
                        exact hJ147280 _ 1 (qm_gk g147259 (by decide) (Or.inr rfl)) (qm_gk g147260 (by decide) (Or.inl (by decide))) (by omega) (by omega)
                      · skip
                        refine qr_iload_n 121 rfl (qm_ge _ _ _) rfl ?_
                        refine qr_if_eq 128 124 rfl rfl rfl (by omega) (fun h147282 => ?_) (fun h147282 => ?_)
                        · skip
                          refine qr_iconst 129 rfl rfl ?_
                          exact hJ147280 _ 0 (qm_gk g147259 (by decide) (Or.inr rfl)) (qm_gk g147260 (by decide) (Or.inl (by decide))) (by omega) (by omega)
                        · skip
                          refine qr_iconst 125 rfl rfl ?_
                          refine qr_goto 129 rfl rfl ?_
                          exact hJ147280 _ 1 (qm_gk g147259 (by decide) (Or.inr rfl)) (qm_gk g147260 (by decide) (Or.inl (by decide))) (by omega) (by omega)
                    refine qr_if_ne 95 91 rfl rfl rfl (by omega) (fun h147283 => ?_) (fun h147283 => ?_)
                    · skip
                      refine qr_iconst 96 rfl rfl ?_
                      refine qr_goto 100 rfl rfl ?_
                      exact hJ147264 _ 1 g147207 g147210 (by omega) (by omega)
                    · skip
                      refine qr_iload_n 92 rfl g147208 rfl ?_
                      refine qr_if_eq 99 95 rfl rfl rfl (by omega) (fun h147284 => ?_) (fun h147284 => ?_)
                      · skip
                        refine qr_iconst 100 rfl rfl ?_
                        exact hJ147264 _ 0 g147207 g147210 (by omega) (by omega)
                      · skip
                        refine qr_iconst 96 rfl rfl ?_
                        refine qr_goto 100 rfl rfl ?_
                        exact hJ147264 _ 1 g147207 g147210 (by omega) (by omega)
              exact hL147219 ((60 - 0 + 1 : Int)).toNat _ 0 0 α145827 (by omega) (qm_gk (qm_gk g145823 (by decide) (Or.inr rfl)) (by decide) (Or.inl (by decide))) (qm_gk (qm_ge _ _ _) (by decide) (Or.inr rfl)) (qm_ge _ _ _) (by omega) (by omega) hI145828 hF145829 (by omega)
        exact hL145831 ((((2 * qS α138342 + 1).toNat : Int) + 1 : Int)).toNat _ 1 α138342 (by omega) (qm_gk g138338 (by decide) (Or.inr rfl)) (qm_ge _ _ _) (by omega) hI138343 hF138344
      · skip
        refine qr_iconst 11 rfl rfl ?_
        refine qr_istore_n _ 12 rfl (by decide) rfl rfl ?_
        have hL147586 : ∀ (n : Nat) (ls : qm_L) (u147580 : Int) (α147582 : Nat → Nat → Int), 32 - u147580 < (n : Int) → qm_get ls 0 = some (.ref 86) → qm_get ls 1 = some (.int (qz u138340)) → qm_get ls 2 = some (.int (qz u147580)) → (0 ≤ u147580 ∧ u147580 ≤ 32) → qI σ α147582 κ ρ → qFr [(86, 15)] [96] σ α σ α147582 → qr_W (qe L xs vb) (d + 1) qx_e187 (fun r w' => ∃ σ' α', w' = qw σ' α' κ ρ ∧ qI σ' α' κ ρ ∧ qFr [(86, 15)] [96] σ α σ' α' ∧ r = none) (12, ls, [], qw σ α147582 κ ρ, 0, 0) := by
          intro n
          induction n with
          | zero => intro ls u147580 α147582 hm g147577 g147578 g147579 hf147585 hI147583 hF147584; exact False.elim (by omega)
          | succ n ih147587 =>
            intro ls u147580 α147582 hm g147577 g147578 g147579 hf147585 hI147583 hF147584
            refine qr_iload_n 13 rfl g147579 rfl ?_
            refine qr_aload_n 14 rfl g147577 rfl ?_
            refine qr_get 17 rfl rfl rfl (by decide) rfl ?_
            refine qr_icmp_ge 48 20 rfl rfl rfl (by omega) (by omega) (fun h147596 => ?_) (fun h147596 => ?_)
            · skip
              refine qr_iinc _ 51 rfl g147578 (by decide) rfl rfl ?_
              refine qr_goto 2 rfl rfl ?_
              exact ih138347 _ (u138340 + 1) α147582 (by omega) (qm_gk g147577 (by decide) (Or.inr rfl)) (qm_ge _ _ _) (by omega) hI147583 hF147584
            · skip
              refine qr_aload_n 21 rfl g147577 rfl ?_
              refine qr_get 24 rfl rfl rfl (by decide) rfl ?_
              refine qr_bipush 26 rfl (by decide) rfl ?_
              refine qr_iload_n 27 rfl g147578 rfl ?_
              refine qr_imul 28 rfl rfl ?_
              refine qr_iload_n 29 rfl g147579 rfl ?_
              refine qr_iadd 30 rfl rfl ?_
              refine qr_iload_n 31 rfl g147578 rfl ?_
              refine qr_iload_n 32 rfl g147579 rfl ?_
              have hJ147602 : ∀ (ls : qm_L) (u147600 : Int), qm_get ls 0 = some (.ref 86) → qm_get ls 1 = some (.int (qz u138340)) → qm_get ls 2 = some (.int (qz u147580)) → (0 ≤ u147600 ∧ u147600 ≤ 99) → qr_W (qe L xs vb) (d + 1) qx_e187 (fun r w' => ∃ σ' α', w' = qw σ' α' κ ρ ∧ qI σ' α' κ ρ ∧ qFr [(86, 15)] [96] σ α σ' α' ∧ r = none) (41, ls, [.int (qz u147600), .int (qz ((32 * u138340) + u147580)), .ref 96], qw σ α147582 κ ρ, 0, 0) := by
                intro ls u147600 g147597 g147598 g147599 hf147601
                refine qr_iastore 42 rfl (by decide) rfl (by omega) (by decide) rfl ?_
                refine qy_wA (qw_r α147582 96 (qzu (α147582 96) (((32 * u138340) + u147580) : Int).toNat u147600)) rfl (fun α147603 e147604 => ?_)
                have hI147605 : qI σ α147603 κ ρ := by rw [e147604]; exact qI_r hI147583 96 _ rfl (show 0 ≤ u147600 ∧ u147600 ≤ 99 by omega)
                have hF147606 : qFr [(86, 15)] [96] σ α σ α147603 := by rw [e147604]; exact qFr_r hF147584 96 _ (by decide)
                refine qr_iinc _ 45 rfl g147599 (by decide) rfl rfl ?_
                refine qr_goto 12 rfl rfl ?_
                exact ih147587 _ (u147580 + 1) α147603 (by omega) (qm_gk g147597 (by decide) (Or.inl (by decide))) (qm_gk g147598 (by decide) (Or.inr rfl)) (qm_ge _ _ _) (by omega) hI147605 hF147606
              refine qr_icmp_ne 39 35 rfl rfl rfl (by omega) (by omega) (fun h147607 => ?_) (fun h147607 => ?_)
              · skip
                refine qr_bipush 41 rfl (by decide) rfl ?_
                exact hJ147602 _ 99 g147577 g147578 g147579 (by omega)
              · skip
                refine qr_iconst 36 rfl rfl ?_
                refine qr_goto 41 rfl rfl ?_
                exact hJ147602 _ 0 g147577 g147578 g147579 (by omega)
        exact hL147586 ((32 - 0 + 1 : Int)).toNat _ 0 α138342 (by omega) (qm_gk g138338 (by decide) (Or.inl (by decide))) (qm_gk g138339 (by decide) (Or.inr rfl)) (qm_ge _ _ _) (by omega) hI138343 hF138344
  exact hL138346 ((32 - 0 + 1 : Int)).toNat _ 0 α (by omega) rfl rfl (by omega) hI hF0

set_option maxHeartbeats 4000000 in
set_option maxRecDepth 20000 in
/-- OneRoofModel.stepsTo -/
theorem sf_186_86 {L : Nat} {xs : Nat → Int} {vb : Bool} {d : Nat} {σ α : Nat → Nat → Int} {κ : Nat → Option Nat} {ρ : Nat} {x1 : Int} {x2 : Int} (hI : qI σ α κ ρ) (r1 : 0 ≤ x1 ∧ x1 ≤ 31) (r2 : 0 ≤ x2 ∧ x2 ≤ 31) : qm_T (qe L xs vb) (d + 3) 186 [.ref 86, .int (qz x1), .int (qz x2)] (qw σ α κ ρ) (fun r w' => ∃ σ' α', w' = qw σ' α' κ ρ ∧ qI σ' α' κ ρ ∧ qFr [(86, 15)] [96] σ α σ' α' ∧ ∃ v : Int, r = some (.int (qz v)) ∧ (0 ≤ v ∧ v ≤ 99)) := by
  refine qr_start (d := d + 2) qv_e186 (Nat.le_of_ble_eq_true rfl) ?_
  show qr_W (qe L xs vb) (d + 2) qx_e186 _ (0, [(0, .ref 86), (1, .int (qz x1)), (2, .int (qz x2))], [], _, 0, 0)
  have hF0 := qFr_rf [(86, 15)] [96] σ α
  refine qr_aload_n 1 rfl rfl rfl ?_
  refine qr_get 4 rfl rfl rfl (by decide) rfl ?_
  have hs1 : 0 ≤ σ 86 15 ∧ σ 86 15 ≤ 1 := hI.1 86 15
  have hJ14 : ∀ (ls : qm_L) (σ10 α11 : Nat → Nat → Int), qm_get ls 0 = some (.ref 86) → qm_get ls 1 = some (.int (qz x1)) → qm_get ls 2 = some (.int (qz x2)) → qI σ10 α11 κ ρ → qFr [(86, 15)] [96] σ α σ10 α11 → qr_W (qe L xs vb) (d + 2) qx_e186 (fun r w' => ∃ σ' α', w' = qw σ' α' κ ρ ∧ qI σ' α' κ ρ ∧ qFr [(86, 15)] [96] σ α σ' α' ∧ ∃ v : Int, r = some (.int (qz v)) ∧ (0 ≤ v ∧ v ≤ 99)) (11, ls, [], qw σ10 α11 κ ρ, 0, 0) := by
    intro ls σ10 α11 g7 g8 g9 hI12 hF13
    refine qr_aload_n 12 rfl g7 rfl ?_
    refine qr_get 15 rfl rfl rfl (by decide) rfl ?_
    refine qr_bipush 17 rfl (by decide) rfl ?_
    refine qr_iload_n 18 rfl g8 rfl ?_
    refine qr_imul 19 rfl rfl ?_
    refine qr_iload_n 20 rfl g9 rfl ?_
    refine qr_iadd 21 rfl rfl ?_
    refine qr_iaload 22 rfl rfl (by omega) (by decide) rfl ?_
    refine qr_topI (fun v15 hv15 => ?_)
    have hs16 : 0 ≤ v15 ∧ v15 ≤ 99 := by rw [hv15]; exact hI12.2.1 96 _ (show _ < 1024 by omega)
    refine qr_istore_n _ 23 rfl (by decide) rfl rfl ?_
    refine qr_iload_n 24 rfl (qm_ge _ _ _) rfl ?_
    refine qr_bipush 26 rfl (by decide) rfl ?_
    refine qr_icmp_le 34 29 rfl rfl rfl (by omega) (by omega) (fun h17 => ?_) (fun h17 => ?_)
    · skip
      refine qr_iload_n 35 rfl (qm_ge _ _ _) rfl ?_
      refine qr_retI rfl rfl (by decide) (by decide) ?_
      exact ⟨_, _, rfl, hI12, hF13, v15, rfl, by omega⟩
    · skip
      refine qr_bipush 31 rfl (by decide) rfl ?_
      refine qr_goto 35 rfl rfl ?_
      refine qr_retI rfl rfl (by decide) (by decide) ?_
      exact ⟨_, _, rfl, hI12, hF13, 99, rfl, by omega⟩
  refine qr_if_ne 11 7 rfl rfl rfl (by omega) (fun h18 => ?_) (fun h18 => ?_)
  · skip
    exact hJ14 _ σ α rfl rfl rfl hI hF0
  · skip
    refine qr_aload_n 8 rfl rfl rfl ?_
    refine qr_callN 11 rfl rfl rfl (sf_187_86 (d := d + 0) hI ) ?_
    rintro _ _ ⟨σ19, α20, rfl, hI21, hG22, rfl⟩
    have hF23 : qFr [(86, 15)] [96] σ α σ19 α20 := qFr_t hF0 hG22 (by decide) (by decide)
    show qr_W (qe L xs vb) (d + 2) qx_e186 _ (11, _, [], qw σ19 α20 κ ρ, 0, 0)
    exact hJ14 _ σ19 α20 rfl rfl rfl hI21 hF23

set_option maxHeartbeats 4000000 in
set_option maxRecDepth 20000 in
/-- OneRoofModel.steps -/
theorem sf_185_86 {L : Nat} {xs : Nat → Int} {vb : Bool} {d : Nat} {σ α : Nat → Nat → Int} {κ : Nat → Option Nat} {ρ : Nat} {x1 : Int} {x2 : Int} (hI : qI σ α κ ρ) (r1 : (-2147483648) ≤ x1 ∧ x1 ≤ 2147483647) (r2 : (-2147483648) ≤ x2 ∧ x2 ≤ 2147483647) : qm_T (qe L xs vb) (d + 4) 185 [.ref 86, .int (qz x1), .int (qz x2)] (qw σ α κ ρ) (fun r w' => ∃ σ' α', w' = qw σ' α' κ ρ ∧ qI σ' α' κ ρ ∧ qFr [(86, 15)] [96] σ α σ' α' ∧ ∃ v : Int, r = some (.int (qz v)) ∧ ((-2147483648) ≤ v ∧ v ≤ 2147483647)) := by
  refine qr_start (d := d + 3) qv_e185 (Nat.le_of_ble_eq_true rfl) ?_
  show qr_W (qe L xs vb) (d + 3) qx_e185 _ (0, [(0, .ref 86), (1, .int (qz x1)), (2, .int (qz x2))], [], _, 0, 0)
  have hF0 := qFr_rf [(86, 15)] [96] σ α
  refine qr_aload_n 1 rfl rfl rfl ?_
  refine qr_iload_n 2 rfl rfl rfl ?_
  refine qr_callN 5 rfl rfl rfl (sf_179_86 (d := d + 1) hI (by omega)) ?_
  have hs3 : 0 ≤ σ 86 6 ∧ σ 86 6 ≤ 32 := hI.1 86 6
  rintro _ _ ⟨rfl, v1, rfl, hv1, hp2⟩
  show qr_W (qe L xs vb) (d + 3) qx_e185 _ (5, _, [.int (qz v1)], qw σ α κ ρ, 0, 0)
  refine qr_if_eq 16 8 rfl rfl rfl (by omega) (fun h4 => ?_) (fun h4 => ?_)
  · skip
    refine qr_iconst 17 rfl rfl ?_
    refine qr_retI rfl rfl (by decide) (by decide) ?_
    exact ⟨_, _, rfl, hI, hF0, (-1), rfl, by omega⟩
  · skip
    refine qr_aload_n 9 rfl rfl rfl ?_
    refine qr_iload_n 10 rfl rfl rfl ?_
    refine qr_callN 13 rfl rfl rfl (sf_179_86 (d := d + 1) hI (by omega)) ?_
    have hs7 : 0 ≤ σ 86 6 ∧ σ 86 6 ≤ 32 := hI.1 86 6
    rintro _ _ ⟨rfl, v5, rfl, hv5, hp6⟩
    show qr_W (qe L xs vb) (d + 3) qx_e185 _ (13, _, [.int (qz v5)], qw σ α κ ρ, 0, 0)
    refine qr_if_ne 18 16 rfl rfl rfl (by omega) (fun h8 => ?_) (fun h8 => ?_)
    · skip
      refine qr_aload_n 19 rfl rfl rfl ?_
      refine qr_iload_n 20 rfl rfl rfl ?_
      refine qr_iload_n 21 rfl rfl rfl ?_
      refine qr_callN 24 rfl rfl rfl (sf_186_86 (d := d + 0) hI (by omega) (by omega)) ?_
      rintro _ _ ⟨σ10, α11, rfl, hI12, hG13, v9, rfl, hv9⟩
      have hF14 : qFr [(86, 15)] [96] σ α σ10 α11 := qFr_t hF0 hG13 (by decide) (by decide)
      show qr_W (qe L xs vb) (d + 3) qx_e185 _ (24, _, [.int (qz v9)], qw σ10 α11 κ ρ, 0, 0)
      refine qr_istore_n _ 25 rfl (by decide) rfl rfl ?_
      refine qr_iload_n 26 rfl rfl rfl ?_
      refine qr_bipush 28 rfl (by decide) rfl ?_
      refine qr_icmp_ne 36 31 rfl rfl rfl (by omega) (by omega) (fun h15 => ?_) (fun h15 => ?_)
      · skip
        refine qr_iload_n 37 rfl rfl rfl ?_
        refine qr_retI rfl rfl (by decide) (by decide) ?_
        exact ⟨_, _, rfl, hI12, hF14, v9, rfl, by omega⟩
      · skip
        refine qr_bipush 33 rfl (by decide) rfl ?_
        refine qr_goto 37 rfl rfl ?_
        refine qr_retI rfl rfl (by decide) (by decide) ?_
        exact ⟨_, _, rfl, hI12, hF14, (-2), rfl, by omega⟩
    · skip
      refine qr_iconst 17 rfl rfl ?_
      refine qr_retI rfl rfl (by decide) (by decide) ?_
      exact ⟨_, _, rfl, hI, hF0, (-1), rfl, by omega⟩

