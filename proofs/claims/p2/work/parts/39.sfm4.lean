def qSf (f : Nat → Int) : Nat → Int
  | 0 => 0
  | n + 1 => qSf f n + f n
def qS (α : Nat → Nat → Int) : Int := qSf (α 96) 1024
theorem qSf_lo (f : Nat → Int) (i : Nat) (v : Int) : ∀ n, n ≤ i → qSf (qzu f i v) n = qSf f n
  | 0, _ => rfl
  | n + 1, h => by
    show qSf (qzu f i v) n + qzu f i v n = qSf f n + f n
    rw [qSf_lo f i v n (by omega)]
    unfold qzu
    rw [if_neg (by omega)]
theorem qSf_u (f : Nat → Int) (i : Nat) (v : Int) : ∀ n, i < n → qSf (qzu f i v) n + f i = qSf f n + v
  | 0, h => absurd h (Nat.not_lt_zero _)
  | n + 1, h => by
    show qSf (qzu f i v) n + qzu f i v n + f i = qSf f n + f n + v
    by_cases e : i = n
    · subst e
      rw [qSf_lo f i v i (Nat.le_refl _)]
      unfold qzu
      rw [if_pos rfl]
      omega
    · have h1 := qSf_u f i v n (by omega)
      have h2 : qzu f i v n = f n := by unfold qzu; rw [if_neg (by omega)]
      rw [h2]
      omega
theorem qS_u (α : Nat → Nat → Int) (i : Nat) (v : Int) (h : i < 1024) : qS (qw_r α 96 (qzu (α 96) i v)) + α 96 i = qS α + v := by
  unfold qS
  rw [qw_r_eq]
  exact qSf_u _ _ _ _ h
theorem qSf_nn (f : Nat → Int) : ∀ n, (∀ j, j < n → 0 ≤ f j) → 0 ≤ qSf f n
  | 0, _ => Int.le_refl 0
  | n + 1, h => by
    have h1 := qSf_nn f n (fun j hj => h j (by omega))
    have h2 := h n (by omega)
    show 0 ≤ qSf f n + f n
    omega
theorem qS_nn {σ α : Nat → Nat → Int} {κ : Nat → Option Nat} {ρ : Nat} (h : qI σ α κ ρ) : 0 ≤ qS α := qSf_nn _ _ (fun j hj => (h.2.1 96 j hj).1)

set_option maxHeartbeats 4000000 in
set_option maxRecDepth 20000 in
/-- OneRoofModel.nearer -/
theorem sf_188_86s {L : Nat} {xs : Nat → Int} {vb : Bool} {d : Nat} {σ α : Nat → Nat → Int} {κ : Nat → Option Nat} {ρ : Nat} {x1 : Int} {x2 : Int} (hI : qI σ α κ ρ) (r1 : 0 ≤ x1 ∧ x1 ≤ 31) (r2 : 0 ≤ x2 ∧ x2 ≤ 31) : qm_T (qe L xs vb) (d + 1) 188 [.ref 86, .int (qz x1), .int (qz x2)] (qw σ α κ ρ) (fun r w' => ∃ α', w' = qw σ α' κ ρ ∧ qI σ α' κ ρ ∧ qFr [] [96] σ α σ α' ∧ ∃ v : Int, r = some (.int (qz v)) ∧ (0 ≤ v ∧ v ≤ 1) ∧ (qS α' ≤ qS α ∧ (v = 1 → qS α' < qS α))) := by
  refine qr_start (d := d + 0) qv_e188 (Nat.le_of_ble_eq_true rfl) ?_
  show qr_W (qe L xs vb) (d + 0) qx_e188 _ (0, [(0, .ref 86), (1, .int (qz x1)), (2, .int (qz x2))], [], _, 0, 0)
  have hF0 := qFr_rf [] [96] σ α
  refine qr_iconst 1 rfl rfl ?_
  refine qr_istore_n _ 2 rfl (by decide) rfl rfl ?_
  refine qr_iconst 3 rfl rfl ?_
  refine qr_istore _ 5 rfl (by decide) rfl rfl ?_
  have hL450 : ∀ (n : Nat) (ls : qm_L) (u440 u442 : Int) (α444 : Nat → Nat → Int), 32 - u442 < (n : Int) → qm_get ls 0 = some (.ref 86) → qm_get ls 1 = some (.int (qz x1)) → qm_get ls 2 = some (.int (qz x2)) → qm_get ls 3 = some (.int (qz u440)) → qm_get ls 4 = some (.int (qz u442)) → (0 ≤ u440 ∧ u440 ≤ 1) → (0 ≤ u442 ∧ u442 ≤ 32) → qI σ α444 κ ρ → qFr [] [96] σ α σ α444 → (qS α444 ≤ qS α ∧ (u440 = 1 → qS α444 < qS α)) → qr_W (qe L xs vb) (d + 0) qx_e188 (fun r w' => ∃ α', w' = qw σ α' κ ρ ∧ qI σ α' κ ρ ∧ qFr [] [96] σ α σ α' ∧ ∃ v : Int, r = some (.int (qz v)) ∧ (0 ≤ v ∧ v ≤ 1) ∧ (qS α' ≤ qS α ∧ (v = 1 → qS α' < qS α))) (5, ls, [], qw σ α444 κ ρ, 0, 0) := by
    intro n
    induction n with
    | zero => intro ls u440 u442 α444 hm g436 g437 g438 g439 g441 hf447 hf448 hI445 hF446 hx449; exact False.elim (by omega)
    | succ n ih451 =>
      intro ls u440 u442 α444 hm g436 g437 g438 g439 g441 hf447 hf448 hI445 hF446 hx449
      refine qr_iload 7 rfl g441 rfl ?_
      refine qr_aload_n 8 rfl g436 rfl ?_
      refine qr_get 11 rfl rfl rfl (by decide) rfl ?_
      have hs452 : 0 ≤ σ 86 6 ∧ σ 86 6 ≤ 32 := hI445.1 86 6
      refine qr_icmp_ge 69 14 rfl rfl rfl (by omega) (by omega) (fun h453 => ?_) (fun h453 => ?_)
      · skip
        refine qr_iload_n 70 rfl g439 rfl ?_
        refine qr_retZ rfl rfl (by omega) (by decide) (by decide) ?_
        exact ⟨_, rfl, hI445, hF446, u440, rfl, by omega, by omega⟩
      · skip
        refine qr_aload_n 15 rfl g436 rfl ?_
        refine qr_get 18 rfl rfl rfl (by decide) rfl ?_
        refine qr_bipush 20 rfl (by decide) rfl ?_
        refine qr_iload 22 rfl g441 rfl ?_
        refine qr_imul 23 rfl rfl ?_
        refine qr_iload_n 24 rfl g437 rfl ?_
        refine qr_iadd 25 rfl rfl ?_
        refine qr_iaload 26 rfl rfl (by omega) (by decide) rfl ?_
        refine qr_topI (fun v454 hv454 => ?_)
        have hs455 : 0 ≤ v454 ∧ v454 ≤ 99 := by rw [hv454]; exact hI445.2.1 96 _ (show _ < 1024 by omega)
        refine qr_iconst 27 rfl rfl ?_
        refine qr_iadd 28 rfl rfl ?_
        refine qr_istore _ 30 rfl (by decide) rfl rfl ?_
        refine qr_iload 32 rfl (qm_ge _ _ _) rfl ?_
        refine qr_aload_n 33 rfl (qm_gk g436 (by decide) (Or.inl (by decide))) rfl ?_
        refine qr_get 36 rfl rfl rfl (by decide) rfl ?_
        refine qr_bipush 38 rfl (by decide) rfl ?_
        refine qr_iload 40 rfl (qm_gk g441 (by decide) (Or.inr rfl)) rfl ?_
        refine qr_imul 41 rfl rfl ?_
        refine qr_iload_n 42 rfl (qm_gk g438 (by decide) (Or.inl (by decide))) rfl ?_
        refine qr_iadd 43 rfl rfl ?_
        refine qr_iaload 44 rfl rfl (by omega) (by decide) rfl ?_
        refine qr_topI (fun v456 hv456 => ?_)
        have hs457 : 0 ≤ v456 ∧ v456 ≤ 99 := by rw [hv456]; exact hI445.2.1 96 _ (show _ < 1024 by omega)
        have hJ475 : ∀ (ls : qm_L) (u467 : Int) (α470 : Nat → Nat → Int), qm_get ls 0 = some (.ref 86) → qm_get ls 1 = some (.int (qz x1)) → qm_get ls 2 = some (.int (qz x2)) → qm_get ls 3 = some (.int (qz u467)) → qm_get ls 4 = some (.int (qz u442)) → (0 ≤ u467 ∧ u467 ≤ 1) → qI σ α470 κ ρ → qFr [] [96] σ α σ α470 → (qS α470 ≤ qS α ∧ (u467 = 1 → qS α470 < qS α)) → qr_W (qe L xs vb) (d + 0) qx_e188 (fun r w' => ∃ α', w' = qw σ α' κ ρ ∧ qI σ α' κ ρ ∧ qFr [] [96] σ α σ α' ∧ ∃ v : Int, r = some (.int (qz v)) ∧ (0 ≤ v ∧ v ≤ 1) ∧ (qS α' ≤ qS α ∧ (v = 1 → qS α' < qS α))) (63, ls, [], qw σ α470 κ ρ, 0, 0) := by
          intro ls u467 α470 g463 g464 g465 g466 g468 hf473 hI471 hF472 hx474
          refine qr_iinc _ 66 rfl g468 (by decide) rfl rfl ?_
          refine qr_goto 5 rfl rfl ?_
          exact ih451 _ u467 (u442 + 1) α470 (by omega) (qm_gk g463 (by decide) (Or.inl (by decide))) (qm_gk g464 (by decide) (Or.inl (by decide))) (qm_gk g465 (by decide) (Or.inl (by decide))) (qm_gk g466 (by decide) (Or.inr rfl)) (qm_ge _ _ _) (by omega) (by omega) hI471 hF472 (by omega)
        refine qr_icmp_ge 63 47 rfl rfl rfl (by omega) (by omega) (fun h476 => ?_) (fun h476 => ?_)
        · skip
          exact hJ475 _ u440 α444 (qm_gk g436 (by decide) (Or.inl (by decide))) (qm_gk g437 (by decide) (Or.inl (by decide))) (qm_gk g438 (by decide) (Or.inl (by decide))) (qm_gk g439 (by decide) (Or.inl (by decide))) (qm_gk g441 (by decide) (Or.inr rfl)) (by omega) hI445 hF446 (by omega)
        · skip
          refine qr_aload_n 48 rfl (qm_gk g436 (by decide) (Or.inl (by decide))) rfl ?_
          refine qr_get 51 rfl rfl rfl (by decide) rfl ?_
          refine qr_bipush 53 rfl (by decide) rfl ?_
          refine qr_iload 55 rfl (qm_gk g441 (by decide) (Or.inr rfl)) rfl ?_
          refine qr_imul 56 rfl rfl ?_
          refine qr_iload_n 57 rfl (qm_gk g438 (by decide) (Or.inl (by decide))) rfl ?_
          refine qr_iadd 58 rfl rfl ?_
          refine qr_iload 60 rfl (qm_ge _ _ _) rfl ?_
          refine qr_iastore 61 rfl (by decide) rfl (by omega) (by decide) rfl ?_
          refine qy_wA (qw_r α444 96 (qzu (α444 96) (((32 * u442) + x2) : Int).toNat (v454 + 1))) rfl (fun α477 e478 => ?_)
          have hI479 : qI σ α477 κ ρ := by rw [e478]; exact qI_r hI445 96 _ rfl (show 0 ≤ (v454 + 1) ∧ (v454 + 1) ≤ 99 by omega)
          have hF480 : qFr [] [96] σ α σ α477 := by rw [e478]; exact qFr_r hF446 96 _ (by decide)
          have hq481 := qS_u α444 (((32 * u442) + x2) : Int).toNat ((v454 + 1)) (by omega)
          rw [← e478] at hq481
          refine qr_iconst 62 rfl rfl ?_
          refine qr_istore_n _ 63 rfl (by decide) rfl rfl ?_
          exact hJ475 _ 1 α477 (qm_gk (qm_gk g436 (by decide) (Or.inl (by decide))) (by decide) (Or.inl (by decide))) (qm_gk (qm_gk g437 (by decide) (Or.inl (by decide))) (by decide) (Or.inl (by decide))) (qm_gk (qm_gk g438 (by decide) (Or.inl (by decide))) (by decide) (Or.inr rfl)) (qm_ge _ _ _) (qm_gk (qm_gk g441 (by decide) (Or.inr rfl)) (by decide) (Or.inl (by decide))) (by omega) hI479 hF480 (by omega)
  exact hL450 ((32 - 0 + 1 : Int)).toNat _ 0 0 α (by omega) rfl rfl rfl rfl rfl (by omega) (by omega) hI hF0 (by omega)

set_option maxHeartbeats 4000000 in
set_option maxRecDepth 20000 in
/-- OneRoofModel.findSteps -/
theorem sf_187_86 {L : Nat} {xs : Nat → Int} {vb : Bool} {d : Nat} {σ α : Nat → Nat → Int} {κ : Nat → Option Nat} {ρ : Nat}  (hI : qI σ α κ ρ)  : qm_T (qe L xs vb) (d + 2) 187 [.ref 86] (qw σ α κ ρ) (fun r w' => ∃ σ' α', w' = qw σ' α' κ ρ ∧ qI σ' α' κ ρ ∧ qFr [(86, 15)] [96] σ α σ' α' ∧ r = none) := by
  refine qr_start (d := d + 1) qv_e187 (Nat.le_of_ble_eq_true rfl) ?_
  show qr_W (qe L xs vb) (d + 1) qx_e187 _ (0, [(0, .ref 86)], [], _, 0, 0)
  have hF0 := qFr_rf [(86, 15)] [96] σ α
  refine qr_iconst 1 rfl rfl ?_
  refine qr_istore_n _ 2 rfl (by decide) rfl rfl ?_
  have hL143476 : ∀ (n : Nat) (ls : qm_L) (u143470 : Int) (α143472 : Nat → Nat → Int), 32 - u143470 < (n : Int) → qm_get ls 0 = some (.ref 86) → qm_get ls 1 = some (.int (qz u143470)) → (0 ≤ u143470 ∧ u143470 ≤ 32) → qI σ α143472 κ ρ → qFr [(86, 15)] [96] σ α σ α143472 → qr_W (qe L xs vb) (d + 1) qx_e187 (fun r w' => ∃ σ' α', w' = qw σ' α' κ ρ ∧ qI σ' α' κ ρ ∧ qFr [(86, 15)] [96] σ α σ' α' ∧ r = none) (2, ls, [], qw σ α143472 κ ρ, 0, 0) := by
    intro n
    induction n with
    | zero => intro ls u143470 α143472 hm g143468 g143469 hf143475 hI143473 hF143474; exact False.elim (by omega)
    | succ n ih143477 =>
      intro ls u143470 α143472 hm g143468 g143469 hf143475 hI143473 hF143474
      refine qr_iload_n 3 rfl g143469 rfl ?_
      refine qr_aload_n 4 rfl g143468 rfl ?_
      refine qr_get 7 rfl rfl rfl (by decide) rfl ?_
      have hs143478 : 0 ≤ σ 86 6 ∧ σ 86 6 ≤ 32 := hI143473.1 86 6
      refine qr_icmp_ge 54 10 rfl rfl rfl (by omega) (by omega) (fun h143791 => ?_) (fun h143791 => ?_)
      · skip
        refine qr_iconst 55 rfl rfl ?_
        refine qr_istore_n _ 56 rfl (by decide) rfl rfl ?_
        have hL151246 : ∀ (n : Nat) (ls : qm_L) (u151240 : Int) (α151242 : Nat → Nat → Int), ((2 * qS α151242 + u151240).toNat : Int) < (n : Int) → qm_get ls 0 = some (.ref 86) → qm_get ls 1 = some (.int (qz u151240)) → (0 ≤ u151240 ∧ u151240 ≤ 1) → qI σ α151242 κ ρ → qFr [(86, 15)] [96] σ α σ α151242 → qr_W (qe L xs vb) (d + 1) qx_e187 (fun r w' => ∃ σ' α', w' = qw σ' α' κ ρ ∧ qI σ' α' κ ρ ∧ qFr [(86, 15)] [96] σ α σ' α' ∧ r = none) (56, ls, [], qw σ α151242 κ ρ, 0, 0) := by
          intro n
          induction n with
          | zero => intro ls u151240 α151242 hm g151238 g151239 hf151245 hI151243 hF151244; exact False.elim (by omega)
          | succ n ih151247 =>
            intro ls u151240 α151242 hm g151238 g151239 hf151245 hI151243 hF151244
            have hq151248 := qS_nn hI151243
            refine qr_iload_n 57 rfl g151239 rfl ?_
            refine qr_if_eq 139 60 rfl rfl rfl (by omega) (fun h151249 => ?_) (fun h151249 => ?_)
            · skip
              refine qr_aload_n 140 rfl g151238 rfl ?_
              refine qr_iconst 141 rfl rfl ?_
              refine qr_put 144 rfl (by decide) rfl (Nat.le_of_ble_eq_true rfl) (Nat.le_of_ble_eq_true rfl) (Or.inl rfl) (qr_fitZ rfl (by omega)) rfl ?_
              refine qy_wS (qw_s σ 86 15 1) rfl (fun σ151250 e151251 => ?_)
              have hI151252 : qI σ151250 α151242 κ ρ := by rw [e151251]; exact qI_s hI151243 86 15 rfl (show 0 ≤ 1 ∧ 1 ≤ 1 by omega)
              have hF151253 : qFr [(86, 15)] [96] σ α σ151250 α151242 := by rw [e151251]; exact qFr_s hF151244 86 15 _ (by decide)
              refine qr_retV rfl rfl (by decide) (by decide) ?_
              exact ⟨_, _, rfl, hI151252, hF151253, rfl⟩
            · skip
              refine qr_iconst 61 rfl rfl ?_
              refine qr_istore_n _ 62 rfl (by decide) rfl rfl ?_
              refine qr_iconst 63 rfl rfl ?_
              refine qr_istore_n _ 64 rfl (by decide) rfl rfl ?_
              have hL152691 : ∀ (n : Nat) (ls : qm_L) (u152681 u152683 : Int) (α152685 : Nat → Nat → Int), 61 - u152683 < (n : Int) → qm_get ls 0 = some (.ref 86) → qm_get ls 1 = some (.int (qz u152681)) → qm_get ls 2 = some (.int (qz u152683)) → (0 ≤ u152681 ∧ u152681 ≤ 1) → (0 ≤ u152683 ∧ u152683 ≤ 61) → qI σ α152685 κ ρ → qFr [(86, 15)] [96] σ α σ α152685 → (qS α152685 ≤ qS α151242 ∧ (u152681 = 1 → qS α152685 < qS α151242)) → qr_W (qe L xs vb) (d + 1) qx_e187 (fun r w' => ∃ σ' α', w' = qw σ' α' κ ρ ∧ qI σ' α' κ ρ ∧ qFr [(86, 15)] [96] σ α σ' α' ∧ r = none) (64, ls, [], qw σ α152685 κ ρ, 0, 0) := by
                intro n
                induction n with
                | zero => intro ls u152681 u152683 α152685 hm g152679 g152680 g152682 hf152688 hf152689 hI152686 hF152687 hx152690; exact False.elim (by omega)
                | succ n ih152692 =>
                  intro ls u152681 u152683 α152685 hm g152679 g152680 g152682 hf152688 hf152689 hI152686 hF152687 hx152690
                  refine qr_iload_n 65 rfl g152682 rfl ?_
                  refine qr_aload_n 66 rfl g152679 rfl ?_
                  refine qr_get 69 rfl rfl rfl (by decide) rfl ?_
                  have hs152693 : 0 ≤ σ 86 11 ∧ σ 86 11 ≤ 61 := hI152686.1 86 11
                  refine qr_icmp_ge 136 72 rfl rfl rfl (by omega) (by omega) (fun h152720 => ?_) (fun h152720 => ?_)
                  · skip
                    refine qr_goto 56 rfl rfl ?_
                    exact ih151247 _ u152681 α152685 (by omega) g152679 g152680 (by omega) hI152686 hF152687
                  · skip
                    refine qr_aload_n 73 rfl g152679 rfl ?_
                    refine qr_aload_n 74 rfl g152679 rfl ?_
                    refine qr_get 77 rfl rfl rfl (by decide) rfl ?_
                    refine qr_iload_n 78 rfl g152682 rfl ?_
                    refine qr_iaload 79 rfl rfl (by omega) (by decide) rfl ?_
                    refine qr_topI (fun v152721 hv152721 => ?_)
                    have hs152722 : 0 ≤ v152721 ∧ v152721 ≤ 31 := by rw [hv152721]; exact hI152686.2.1 94 _ (show _ < 61 by omega)
                    refine qr_aload_n 80 rfl g152679 rfl ?_
                    refine qr_get 83 rfl rfl rfl (by decide) rfl ?_
                    refine qr_iload_n 84 rfl g152682 rfl ?_
                    refine qr_iaload 85 rfl rfl (by omega) (by decide) rfl ?_
                    refine qr_topI (fun v152723 hv152723 => ?_)
                    have hs152724 : 0 ≤ v152723 ∧ v152723 ≤ 31 := by rw [hv152723]; exact hI152686.2.1 95 _ (show _ < 61 by omega)
                    refine qr_callN 88 rfl rfl rfl (sf_188_86s (d := d + 0) hI152686 (by omega) (by omega)) ?_
                    rintro _ _ ⟨α152727, rfl, hI152728, hG152729, v152725, rfl, hv152725, hp152726⟩
                    have hF152730 : qFr [(86, 15)] [96] σ α σ α152727 := qFr_t hF152687 hG152729 (by decide) (by decide)
                    show qr_W (qe L xs vb) (d + 1) qx_e187 _ (88, _, [.int (qz v152725)], qw σ α152727 κ ρ, 0, 0)
                    have hJ152736 : ∀ (ls : qm_L) (u152733 : Int), qm_get ls 0 = some (.ref 86) → qm_get ls 2 = some (.int (qz u152683)) → (0 ≤ u152733 ∧ u152733 ≤ 1) → (u152733 = 1 → qS α152727 < qS α151242) → qr_W (qe L xs vb) (d + 1) qx_e187 (fun r w' => ∃ σ' α', w' = qw σ' α' κ ρ ∧ qI σ' α' κ ρ ∧ qFr [(86, 15)] [96] σ α σ' α' ∧ r = none) (100, ls, [.int (qz u152733)], qw σ α152727 κ ρ, 0, 0) := by
                      intro ls u152733 g152731 g152732 hf152734 hx152735
                      refine qr_istore_n _ 101 rfl (by decide) rfl rfl ?_
                      refine qr_aload_n 102 rfl (qm_gk g152731 (by decide) (Or.inr rfl)) rfl ?_
                      refine qr_aload_n 103 rfl (qm_gk g152731 (by decide) (Or.inr rfl)) rfl ?_
                      refine qr_get 106 rfl rfl rfl (by decide) rfl ?_
                      refine qr_iload_n 107 rfl (qm_gk g152732 (by decide) (Or.inl (by decide))) rfl ?_
                      refine qr_iaload 108 rfl rfl (by omega) (by decide) rfl ?_
                      refine qr_topI (fun v152737 hv152737 => ?_)
                      have hs152738 : 0 ≤ v152737 ∧ v152737 ≤ 31 := by rw [hv152737]; exact hI152728.2.1 95 _ (show _ < 61 by omega)
                      refine qr_aload_n 109 rfl (qm_gk g152731 (by decide) (Or.inr rfl)) rfl ?_
                      refine qr_get 112 rfl rfl rfl (by decide) rfl ?_
                      refine qr_iload_n 113 rfl (qm_gk g152732 (by decide) (Or.inl (by decide))) rfl ?_
                      refine qr_iaload 114 rfl rfl (by omega) (by decide) rfl ?_
                      refine qr_topI (fun v152739 hv152739 => ?_)
                      have hs152740 : 0 ≤ v152739 ∧ v152739 ≤ 31 := by rw [hv152739]; exact hI152728.2.1 94 _ (show _ < 61 by omega)
                      refine qr_callN 117 rfl rfl rfl (sf_188_86s (d := d + 0) hI152728 (by omega) (by omega)) ?_
                      rintro _ _ ⟨α152743, rfl, hI152744, hG152745, v152741, rfl, hv152741, hp152742⟩
                      have hF152746 : qFr [(86, 15)] [96] σ α σ α152743 := qFr_t hF152730 hG152745 (by decide) (by decide)
                      show qr_W (qe L xs vb) (d + 1) qx_e187 _ (117, _, [.int (qz v152741)], qw σ α152743 κ ρ, 0, 0)
                      have hJ152752 : ∀ (ls : qm_L) (u152749 : Int), qm_get ls 0 = some (.ref 86) → qm_get ls 2 = some (.int (qz u152683)) → (0 ≤ u152749 ∧ u152749 ≤ 1) → (u152749 = 1 → qS α152743 < qS α151242) → qr_W (qe L xs vb) (d + 1) qx_e187 (fun r w' => ∃ σ' α', w' = qw σ' α' κ ρ ∧ qI σ' α' κ ρ ∧ qFr [(86, 15)] [96] σ α σ' α' ∧ r = none) (129, ls, [.int (qz u152749)], qw σ α152743 κ ρ, 0, 0) := by
                        intro ls u152749 g152747 g152748 hf152750 hx152751
                        refine qr_istore_n _ 130 rfl (by decide) rfl rfl ?_
                        refine qr_iinc _ 133 rfl (qm_gk g152748 (by decide) (Or.inl (by decide))) (by decide) rfl rfl ?_
                        refine qr_goto 64 rfl rfl ?_
                        exact ih152692 _ u152749 (u152683 + 1) α152743 (by omega) (qm_gk (qm_gk g152747 (by decide) (Or.inr rfl)) (by decide) (Or.inl (by decide))) (qm_gk (qm_ge _ _ _) (by decide) (Or.inr rfl)) (qm_ge _ _ _) (by omega) (by omega) hI152744 hF152746 (by omega)
                      refine qr_if_ne 124 120 rfl rfl rfl (by omega) (fun h152753 => ?_) (fun h152753 => ?_)
                      · skip
                        refine qr_iconst 125 rfl rfl ?_
                        refine qr_goto 129 rfl rfl ?_
                        exact hJ152752 _ 1 (qm_gk g152731 (by decide) (Or.inr rfl)) (qm_gk g152732 (by decide) (Or.inl (by decide))) (by omega) (by omega)
                      · skip
                        refine qr_iload_n 121 rfl (qm_ge _ _ _) rfl ?_
                        refine qr_if_eq 128 124 rfl rfl rfl (by omega) (fun h152754 => ?_) (fun h152754 => ?_)
                        · skip
                          refine qr_iconst 129 rfl rfl ?_
                          exact hJ152752 _ 0 (qm_gk g152731 (by decide) (Or.inr rfl)) (qm_gk g152732 (by decide) (Or.inl (by decide))) (by omega) (by omega)
                        · skip
                          refine qr_iconst 125 rfl rfl ?_
                          refine qr_goto 129 rfl rfl ?_
                          exact hJ152752 _ 1 (qm_gk g152731 (by decide) (Or.inr rfl)) (qm_gk g152732 (by decide) (Or.inl (by decide))) (by omega) (by omega)
                    refine qr_if_ne 95 91 rfl rfl rfl (by omega) (fun h152755 => ?_) (fun h152755 => ?_)
                    · skip
                      refine qr_iconst 96 rfl rfl ?_
                      refine qr_goto 100 rfl rfl ?_
                      exact hJ152736 _ 1 g152679 g152682 (by omega) (by omega)
                    · skip
                      refine qr_iload_n 92 rfl g152680 rfl ?_
                      refine qr_if_eq 99 95 rfl rfl rfl (by omega) (fun h152756 => ?_) (fun h152756 => ?_)
                      · skip
                        refine qr_iconst 100 rfl rfl ?_
                        exact hJ152736 _ 0 g152679 g152682 (by omega) (by omega)
                      · skip
                        refine qr_iconst 96 rfl rfl ?_
                        refine qr_goto 100 rfl rfl ?_
                        exact hJ152736 _ 1 g152679 g152682 (by omega) (by omega)
              exact hL152691 ((61 - 0 + 1 : Int)).toNat _ 0 0 α151242 (by omega) (qm_gk (qm_gk g151238 (by decide) (Or.inr rfl)) (by decide) (Or.inl (by decide))) (qm_gk (qm_ge _ _ _) (by decide) (Or.inr rfl)) (qm_ge _ _ _) (by omega) (by omega) hI151243 hF151244 (by omega)
        exact hL151246 ((((2 * qS α143472 + 1).toNat : Int) + 1 : Int)).toNat _ 1 α143472 (by omega) (qm_gk g143468 (by decide) (Or.inr rfl)) (qm_ge _ _ _) (by omega) hI143473 hF143474
      · skip
        refine qr_iconst 11 rfl rfl ?_
        refine qr_istore_n _ 12 rfl (by decide) rfl rfl ?_
        have hL153058 : ∀ (n : Nat) (ls : qm_L) (u153052 : Int) (α153054 : Nat → Nat → Int), 32 - u153052 < (n : Int) → qm_get ls 0 = some (.ref 86) → qm_get ls 1 = some (.int (qz u143470)) → qm_get ls 2 = some (.int (qz u153052)) → (0 ≤ u153052 ∧ u153052 ≤ 32) → qI σ α153054 κ ρ → qFr [(86, 15)] [96] σ α σ α153054 → qr_W (qe L xs vb) (d + 1) qx_e187 (fun r w' => ∃ σ' α', w' = qw σ' α' κ ρ ∧ qI σ' α' κ ρ ∧ qFr [(86, 15)] [96] σ α σ' α' ∧ r = none) (12, ls, [], qw σ α153054 κ ρ, 0, 0) := by
          intro n
          induction n with
          | zero => intro ls u153052 α153054 hm g153049 g153050 g153051 hf153057 hI153055 hF153056; exact False.elim (by omega)
          | succ n ih153059 =>
            intro ls u153052 α153054 hm g153049 g153050 g153051 hf153057 hI153055 hF153056
            refine qr_iload_n 13 rfl g153051 rfl ?_
            refine qr_aload_n 14 rfl g153049 rfl ?_
            refine qr_get 17 rfl rfl rfl (by decide) rfl ?_
            refine qr_icmp_ge 48 20 rfl rfl rfl (by omega) (by omega) (fun h153068 => ?_) (fun h153068 => ?_)
            · skip
              refine qr_iinc _ 51 rfl g153050 (by decide) rfl rfl ?_
              refine qr_goto 2 rfl rfl ?_
              exact ih143477 _ (u143470 + 1) α153054 (by omega) (qm_gk g153049 (by decide) (Or.inr rfl)) (qm_ge _ _ _) (by omega) hI153055 hF153056
            · skip
              refine qr_aload_n 21 rfl g153049 rfl ?_
              refine qr_get 24 rfl rfl rfl (by decide) rfl ?_
              refine qr_bipush 26 rfl (by decide) rfl ?_
              refine qr_iload_n 27 rfl g153050 rfl ?_
              refine qr_imul 28 rfl rfl ?_
              refine qr_iload_n 29 rfl g153051 rfl ?_
              refine qr_iadd 30 rfl rfl ?_
              refine qr_iload_n 31 rfl g153050 rfl ?_
              refine qr_iload_n 32 rfl g153051 rfl ?_
              have hJ153074 : ∀ (ls : qm_L) (u153072 : Int), qm_get ls 0 = some (.ref 86) → qm_get ls 1 = some (.int (qz u143470)) → qm_get ls 2 = some (.int (qz u153052)) → (0 ≤ u153072 ∧ u153072 ≤ 99) → qr_W (qe L xs vb) (d + 1) qx_e187 (fun r w' => ∃ σ' α', w' = qw σ' α' κ ρ ∧ qI σ' α' κ ρ ∧ qFr [(86, 15)] [96] σ α σ' α' ∧ r = none) (41, ls, [.int (qz u153072), .int (qz ((32 * u143470) + u153052)), .ref 96], qw σ α153054 κ ρ, 0, 0) := by
                intro ls u153072 g153069 g153070 g153071 hf153073
                refine qr_iastore 42 rfl (by decide) rfl (by omega) (by decide) rfl ?_
                refine qy_wA (qw_r α153054 96 (qzu (α153054 96) (((32 * u143470) + u153052) : Int).toNat u153072)) rfl (fun α153075 e153076 => ?_)
                have hI153077 : qI σ α153075 κ ρ := by rw [e153076]; exact qI_r hI153055 96 _ rfl (show 0 ≤ u153072 ∧ u153072 ≤ 99 by omega)
                have hF153078 : qFr [(86, 15)] [96] σ α σ α153075 := by rw [e153076]; exact qFr_r hF153056 96 _ (by decide)
                refine qr_iinc _ 45 rfl g153071 (by decide) rfl rfl ?_
                refine qr_goto 12 rfl rfl ?_
                exact ih153059 _ (u153052 + 1) α153075 (by omega) (qm_gk g153069 (by decide) (Or.inl (by decide))) (qm_gk g153070 (by decide) (Or.inr rfl)) (qm_ge _ _ _) (by omega) hI153077 hF153078
              refine qr_icmp_ne 39 35 rfl rfl rfl (by omega) (by omega) (fun h153079 => ?_) (fun h153079 => ?_)
              · skip
                refine qr_bipush 41 rfl (by decide) rfl ?_
                exact hJ153074 _ 99 g153049 g153050 g153051 (by omega)
              · skip
                refine qr_iconst 36 rfl rfl ?_
                refine qr_goto 41 rfl rfl ?_
                exact hJ153074 _ 0 g153049 g153050 g153051 (by omega)
        exact hL153058 ((32 - 0 + 1 : Int)).toNat _ 0 α143472 (by omega) (qm_gk g143468 (by decide) (Or.inl (by decide))) (qm_gk g143469 (by decide) (Or.inr rfl)) (qm_ge _ _ _) (by omega) hI143473 hF143474
  exact hL143476 ((32 - 0 + 1 : Int)).toNat _ 0 α (by omega) rfl rfl (by omega) hI hF0

set_option maxHeartbeats 4000000 in
set_option maxRecDepth 20000 in
/-- OneRoofModel.stepsTo -/
theorem sf_186_86 {L : Nat} {xs : Nat → Int} {vb : Bool} {d : Nat} {σ α : Nat → Nat → Int} {κ : Nat → Option Nat} {ρ : Nat} {x1 : Int} {x2 : Int} (hI : qI σ α κ ρ) (r1 : 0 ≤ x1 ∧ x1 ≤ 31) (r2 : 0 ≤ x2 ∧ x2 ≤ 31) : qm_T (qe L xs vb) (d + 3) 186 [.ref 86, .int (qz x1), .int (qz x2)] (qw σ α κ ρ) (fun r w' => ∃ σ' α', w' = qw σ' α' κ ρ ∧ qI σ' α' κ ρ ∧ qFr [(86, 15)] [96] σ α σ' α' ∧ ∃ v : Int, r = some (.int (qz v)) ∧ (0 ≤ v ∧ v ≤ 99)) := by
  refine qr_start (d := d + 2) qv_e186 (Nat.le_of_ble_eq_true rfl) ?_
  show qr_W (qe L xs vb) (d + 2) qx_e186 _ (0, [(0, .ref 86), (1, .int (qz x1)), (2, .int (qz x2))], [], _, 0, 0)
  have hF0 := qFr_rf [(86, 15)] [96] σ α
  refine qr_aload_n 1 rfl rfl rfl ?_
  refine qr_get 4 rfl rfl rfl (by decide) rfl ?_
  have hs1 : 0 ≤ σ 86 15 ∧ σ 86 15 ≤ 1 := hI.1 86 15
  have hJ14 : ∀ (ls : qm_L) (σ10 α11 : Nat → Nat → Int), qm_get ls 0 = some (.ref 86) → qm_get ls 1 = some (.int (qz x1)) → qm_get ls 2 = some (.int (qz x2)) → qI σ10 α11 κ ρ → qFr [(86, 15)] [96] σ α σ10 α11 → qr_W (qe L xs vb) (d + 2) qx_e186 (fun r w' => ∃ σ' α', w' = qw σ' α' κ ρ ∧ qI σ' α' κ ρ ∧ qFr [(86, 15)] [96] σ α σ' α' ∧ ∃ v : Int, r = some (.int (qz v)) ∧ (0 ≤ v ∧ v ≤ 99)) (11, ls, [], qw σ10 α11 κ ρ, 0, 0) := by
    intro ls σ10 α11 g7 g8 g9 hI12 hF13
    refine qr_aload_n 12 rfl g7 rfl ?_
    refine qr_get 15 rfl rfl rfl (by decide) rfl ?_
    refine qr_bipush 17 rfl (by decide) rfl ?_
    refine qr_iload_n 18 rfl g8 rfl ?_
    refine qr_imul 19 rfl rfl ?_
    refine qr_iload_n 20 rfl g9 rfl ?_
    refine qr_iadd 21 rfl rfl ?_
    refine qr_iaload 22 rfl rfl (by omega) (by decide) rfl ?_
    refine qr_topI (fun v15 hv15 => ?_)
    have hs16 : 0 ≤ v15 ∧ v15 ≤ 99 := by rw [hv15]; exact hI12.2.1 96 _ (show _ < 1024 by omega)
    refine qr_istore_n _ 23 rfl (by decide) rfl rfl ?_
    refine qr_iload_n 24 rfl (qm_ge _ _ _) rfl ?_
    refine qr_bipush 26 rfl (by decide) rfl ?_
    refine qr_icmp_le 34 29 rfl rfl rfl (by omega) (by omega) (fun h17 => ?_) (fun h17 => ?_)
    · skip
      refine qr_iload_n 35 rfl (qm_ge _ _ _) rfl ?_
      refine qr_retI rfl rfl (by decide) (by decide) ?_
      exact ⟨_, _, rfl, hI12, hF13, v15, rfl, by omega⟩
    · skip
      refine qr_bipush 31 rfl (by decide) rfl ?_
      refine qr_goto 35 rfl rfl ?_
      refine qr_retI rfl rfl (by decide) (by decide) ?_
      exact ⟨_, _, rfl, hI12, hF13, 99, rfl, by omega⟩
  refine qr_if_ne 11 7 rfl rfl rfl (by omega) (fun h18 => ?_) (fun h18 => ?_)
  · skip
    exact hJ14 _ σ α rfl rfl rfl hI hF0
  · skip
    refine qr_aload_n 8 rfl rfl rfl ?_
    refine qr_callN 11 rfl rfl rfl (sf_187_86 (d := d + 0) hI ) ?_
    rintro _ _ ⟨σ19, α20, rfl, hI21, hG22, rfl⟩
    have hF23 : qFr [(86, 15)] [96] σ α σ19 α20 := qFr_t hF0 hG22 (by decide) (by decide)
    show qr_W (qe L xs vb) (d + 2) qx_e186 _ (11, _, [], qw σ19 α20 κ ρ, 0, 0)
    exact hJ14 _ σ19 α20 rfl rfl rfl hI21 hF23

set_option maxHeartbeats 4000000 in
set_option maxRecDepth 20000 in
/-- OneRoofModel.steps -/
theorem sf_185_86 {L : Nat} {xs : Nat → Int} {vb : Bool} {d : Nat} {σ α : Nat → Nat → Int} {κ : Nat → Option Nat} {ρ : Nat} {x1 : Int} {x2 : Int} (hI : qI σ α κ ρ) (r1 : (-2147483648) ≤ x1 ∧ x1 ≤ 2147483647) (r2 : (-2147483648) ≤ x2 ∧ x2 ≤ 2147483647) : qm_T (qe L xs vb) (d + 4) 185 [.ref 86, .int (qz x1), .int (qz x2)] (qw σ α κ ρ) (fun r w' => ∃ σ' α', w' = qw σ' α' κ ρ ∧ qI σ' α' κ ρ ∧ qFr [(86, 15)] [96] σ α σ' α' ∧ ∃ v : Int, r = some (.int (qz v)) ∧ ((-2147483648) ≤ v ∧ v ≤ 2147483647)) := by
  refine qr_start (d := d + 3) qv_e185 (Nat.le_of_ble_eq_true rfl) ?_
  show qr_W (qe L xs vb) (d + 3) qx_e185 _ (0, [(0, .ref 86), (1, .int (qz x1)), (2, .int (qz x2))], [], _, 0, 0)
  have hF0 := qFr_rf [(86, 15)] [96] σ α
  refine qr_aload_n 1 rfl rfl rfl ?_
  refine qr_iload_n 2 rfl rfl rfl ?_
  refine qr_callN 5 rfl rfl rfl (sf_179_86 (d := d + 1) hI (by omega)) ?_
  have hs3 : 0 ≤ σ 86 6 ∧ σ 86 6 ≤ 32 := hI.1 86 6
  rintro _ _ ⟨rfl, v1, rfl, hv1, hp2⟩
  show qr_W (qe L xs vb) (d + 3) qx_e185 _ (5, _, [.int (qz v1)], qw σ α κ ρ, 0, 0)
  refine qr_if_eq 16 8 rfl rfl rfl (by omega) (fun h4 => ?_) (fun h4 => ?_)
  · skip
    refine qr_iconst 17 rfl rfl ?_
    refine qr_retI rfl rfl (by decide) (by decide) ?_
    exact ⟨_, _, rfl, hI, hF0, (-1), rfl, by omega⟩
  · skip
    refine qr_aload_n 9 rfl rfl rfl ?_
    refine qr_iload_n 10 rfl rfl rfl ?_
    refine qr_callN 13 rfl rfl rfl (sf_179_86 (d := d + 1) hI (by omega)) ?_
    have hs7 : 0 ≤ σ 86 6 ∧ σ 86 6 ≤ 32 := hI.1 86 6
    rintro _ _ ⟨rfl, v5, rfl, hv5, hp6⟩
    show qr_W (qe L xs vb) (d + 3) qx_e185 _ (13, _, [.int (qz v5)], qw σ α κ ρ, 0, 0)
    refine qr_if_ne 18 16 rfl rfl rfl (by omega) (fun h8 => ?_) (fun h8 => ?_)
    · skip
      refine qr_aload_n 19 rfl rfl rfl ?_
      refine qr_iload_n 20 rfl rfl rfl ?_
      refine qr_iload_n 21 rfl rfl rfl ?_
      refine qr_callN 24 rfl rfl rfl (sf_186_86 (d := d + 0) hI (by omega) (by omega)) ?_
      rintro _ _ ⟨σ10, α11, rfl, hI12, hG13, v9, rfl, hv9⟩
      have hF14 : qFr [(86, 15)] [96] σ α σ10 α11 := qFr_t hF0 hG13 (by decide) (by decide)
      show qr_W (qe L xs vb) (d + 3) qx_e185 _ (24, _, [.int (qz v9)], qw σ10 α11 κ ρ, 0, 0)
      refine qr_istore_n _ 25 rfl (by decide) rfl rfl ?_
      refine qr_iload_n 26 rfl rfl rfl ?_
      refine qr_bipush 28 rfl (by decide) rfl ?_
      refine qr_icmp_ne 36 31 rfl rfl rfl (by omega) (by omega) (fun h15 => ?_) (fun h15 => ?_)
      · skip
        refine qr_iload_n 37 rfl rfl rfl ?_
        refine qr_retI rfl rfl (by decide) (by decide) ?_
        exact ⟨_, _, rfl, hI12, hF14, v9, rfl, by omega⟩
      · skip
        refine qr_bipush 33 rfl (by decide) rfl ?_
        refine qr_goto 37 rfl rfl ?_
        refine qr_retI rfl rfl (by decide) (by decide) ?_
        exact ⟨_, _, rfl, hI12, hF14, (-2), rfl, by omega⟩
    · skip
      refine qr_iconst 17 rfl rfl ?_
      refine qr_retI rfl rfl (by decide) (by decide) ?_
      exact ⟨_, _, rfl, hI, hF0, (-1), rfl, by omega⟩

