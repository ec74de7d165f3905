def qSf (f : Nat → Int) : Nat → Int
  | 0 => 0
  | n + 1 => qSf f n + f n
def qS (α : Nat → Nat → Int) : Int := qSf (α 96) 1024
theorem qSf_lo (f : Nat → Int) (i : Nat) (v : Int) : ∀ n, n ≤ i → qSf (qzu f i v) n = qSf f n
  | 0, _ => rfl
  | n + 1, h => by
    show qSf (qzu f i v) n + qzu f i v n = qSf f n + f n
    rw [qSf_lo f i v n (by omega)]
    unfold qzu
    rw [if_neg (by omega)]
theorem qSf_u (f : Nat → Int) (i : Nat) (v : Int) : ∀ n, i < n → qSf (qzu f i v) n + f i = qSf f n + v
  | 0, h => absurd h (Nat.not_lt_zero _)
  | n + 1, h => by
    show qSf (qzu f i v) n + qzu f i v n + f i = qSf f n + f n + v
    by_cases e : i = n
    · subst e
      rw [qSf_lo f i v i (Nat.le_refl _)]
      unfold qzu
      rw [if_pos rfl]
      omega
    · have h1 := qSf_u f i v n (by omega)
      have h2 : qzu f i v n = f n := by unfold qzu; rw [if_neg (by omega)]
      rw [h2]
      omega
theorem qS_u (α : Nat → Nat → Int) (i : Nat) (v : Int) (h : i < 1024) : qS (qw_r α 96 (qzu (α 96) i v)) + α 96 i = qS α + v := by
  unfold qS
  rw [qw_r_eq]
  exact qSf_u _ _ _ _ h
theorem qSf_nn (f : Nat → Int) : ∀ n, (∀ j, j < n → 0 ≤ f j) → 0 ≤ qSf f n
  | 0, _ => Int.le_refl 0
  | n + 1, h => by
    have h1 := qSf_nn f n (fun j hj => h j (by omega))
    have h2 := h n (by omega)
    show 0 ≤ qSf f n + f n
    omega
theorem qS_nn {σ α : Nat → Nat → Int} {κ : Nat → Option Nat} {ρ : Nat} (h : qI σ α κ ρ) : 0 ≤ qS α := qSf_nn _ _ (fun j hj => (h.2.1 96 j hj).1)

set_option maxHeartbeats 4000000 in
set_option maxRecDepth 20000 in
/-- OneRoofModel.nearer -/
theorem sf_189_86s {L : Nat} {xs : Nat → Int} {vb : Bool} {d : Nat} {σ α : Nat → Nat → Int} {κ : Nat → Option Nat} {ρ : Nat} {x1 : Int} {x2 : Int} {P : Int → Int → Int → Prop} (hI : qI σ α κ ρ) (r1 : 0 ≤ x1 ∧ x1 ≤ 31) (r2 : 0 ≤ x2 ∧ x2 ≤ 31) (p0 : ∀ x y : Int, (0 ≤ x ∧ x < σ 86 6) → (0 ≤ y ∧ y < σ 86 6) → P (qTb (α 96) x y) x y) (p1 : qC1 P (σ 86 6) x1 x2) (p2 : x1 < σ 86 6 ∧ x2 < σ 86 6) (p3 : σ 86 15 = 0) : qm_T (qe L xs vb) (d + 1) 189 [.ref 86, .int (qz x1), .int (qz x2)] (qw σ α κ ρ) (fun r w' => ∃ α', w' = qw σ α' κ ρ ∧ qI σ α' κ ρ ∧ qFr [] [96] σ α σ α' ∧ ∃ v : Int, r = some (.int (qz v)) ∧ (0 ≤ v ∧ v ≤ 1) ∧ (qS α' ≤ qS α ∧ (v = 1 → qS α' < qS α)) ∧ qNr P (α 96) (α' 96) (σ 86 6) x1 x2 (σ 86 6) v) := by
  refine qr_start (d := d + 0) qv_e189 (Nat.le_of_ble_eq_true rfl) ?_
  show qr_W (qe L xs vb) (d + 0) qx_e189 _ (0, [(0, .ref 86), (1, .int (qz x1)), (2, .int (qz x2))], [], _, 0, 0)
  have hF0 := qFr_rf [] [96] σ α
  have hz86_6 : 0 ≤ σ 86 6 ∧ σ 86 6 ≤ 32 := hI.1 86 6
  have hz86_15 : 0 ≤ σ 86 15 ∧ σ 86 15 ≤ 1 := hI.1 86 15
  refine qr_iconst 1 rfl rfl ?_
  refine qr_istore_n _ 2 rfl (by decide) rfl rfl ?_
  refine qr_iconst 3 rfl rfl ?_
  refine qr_istore _ 5 rfl (by decide) rfl rfl ?_
  have hL211 : ∀ (n : Nat) (ls : qm_L) (u200 u202 : Int) (α204 : Nat → Nat → Int), 32 - u202 < (n : Int) → qm_get ls 0 = some (.ref 86) → qm_get ls 1 = some (.int (qz x1)) → qm_get ls 2 = some (.int (qz x2)) → qm_get ls 3 = some (.int (qz u200)) → qm_get ls 4 = some (.int (qz u202)) → (0 ≤ u200 ∧ u200 ≤ 1) → (0 ≤ u202 ∧ u202 ≤ 32) → qI σ α204 κ ρ → qFr [] [96] σ α σ α204 → qNr P (α 96) (α204 96) (σ 86 6) x1 x2 u202 u200 → (qS α204 ≤ qS α ∧ (u200 = 1 → qS α204 < qS α)) → qr_W (qe L xs vb) (d + 0) qx_e189 (fun r w' => ∃ α', w' = qw σ α' κ ρ ∧ qI σ α' κ ρ ∧ qFr [] [96] σ α σ α' ∧ ∃ v : Int, r = some (.int (qz v)) ∧ (0 ≤ v ∧ v ≤ 1) ∧ (qS α' ≤ qS α ∧ (v = 1 → qS α' < qS α)) ∧ qNr P (α 96) (α' 96) (σ 86 6) x1 x2 (σ 86 6) v) (5, ls, [], qw σ α204 κ ρ, 0, 0) := by
    intro n
    induction n with
    | zero => intro ls u200 u202 α204 hm g196 g197 g198 g199 g201 hf207 hf208 hI205 hF206 hx209 hx210; exact False.elim (by omega)
    | succ n ih212 =>
      intro ls u200 u202 α204 hm g196 g197 g198 g199 g201 hf207 hf208 hI205 hF206 hx209 hx210
      refine qr_iload 7 rfl g201 rfl ?_
      refine qr_aload_n 8 rfl g196 rfl ?_
      refine qr_get 11 rfl rfl rfl (by decide) rfl ?_
      refine qr_icmp_ge 69 14 rfl rfl rfl (by omega) (by omega) (fun h213 => ?_) (fun h213 => ?_)
      · skip
        refine qr_iload_n 70 rfl g199 rfl ?_
        refine qr_retZ rfl rfl (by omega) (by decide) (by decide) ?_
        exact ⟨_, rfl, hI205, hF206, u200, rfl, by omega, by omega, (qNr_end hx209 (by omega))⟩
      · skip
        refine qr_aload_n 15 rfl g196 rfl ?_
        refine qr_get 18 rfl rfl rfl (by decide) rfl ?_
        refine qr_bipush 20 rfl (by decide) rfl ?_
        refine qr_iload 22 rfl g201 rfl ?_
        refine qr_imul 23 rfl rfl ?_
        refine qr_iload_n 24 rfl g197 rfl ?_
        refine qr_iadd 25 rfl rfl ?_
        refine qr_iaload 26 rfl rfl (by omega) (by decide) rfl ?_
        refine qr_topI (fun v214 hv214 => ?_)
        have hs215 : 0 ≤ v214 ∧ v214 ≤ 99 := by rw [hv214]; exact hI205.2.1 96 _ (show _ < 1024 by omega)
        refine qr_iconst 27 rfl rfl ?_
        refine qr_iadd 28 rfl rfl ?_
        refine qr_istore _ 30 rfl (by decide) rfl rfl ?_
        refine qr_iload 32 rfl (qm_ge _ _ _) rfl ?_
        refine qr_aload_n 33 rfl (qm_gk g196 (by decide) (Or.inl (by decide))) rfl ?_
        refine qr_get 36 rfl rfl rfl (by decide) rfl ?_
        refine qr_bipush 38 rfl (by decide) rfl ?_
        refine qr_iload 40 rfl (qm_gk g201 (by decide) (Or.inr rfl)) rfl ?_
        refine qr_imul 41 rfl rfl ?_
        refine qr_iload_n 42 rfl (qm_gk g198 (by decide) (Or.inl (by decide))) rfl ?_
        refine qr_iadd 43 rfl rfl ?_
        refine qr_iaload 44 rfl rfl (by omega) (by decide) rfl ?_
        refine qr_topI (fun v216 hv216 => ?_)
        have hs217 : 0 ≤ v216 ∧ v216 ≤ 99 := by rw [hv216]; exact hI205.2.1 96 _ (show _ < 1024 by omega)
        refine qr_icmp_ge 63 47 rfl rfl rfl (by omega) (by omega) (fun h218 => ?_) (fun h218 => ?_)
        · skip
          refine qr_iinc _ 66 rfl (qm_gk g201 (by decide) (Or.inr rfl)) (by decide) rfl rfl ?_
          refine qr_goto 5 rfl rfl ?_
          exact ih212 _ u200 (u202 + 1) α204 (by omega) (qm_gk (qm_gk g196 (by decide) (Or.inl (by decide))) (by decide) (Or.inl (by decide))) (qm_gk (qm_gk g197 (by decide) (Or.inl (by decide))) (by decide) (Or.inl (by decide))) (qm_gk (qm_gk g198 (by decide) (Or.inl (by decide))) (by decide) (Or.inl (by decide))) (qm_gk (qm_gk g199 (by decide) (Or.inl (by decide))) (by decide) (Or.inr rfl)) (qm_ge _ _ _) (by omega) (by omega) hI205 hF206 (qNr_skip hx209 (qTb_c hv214) (qTb_c hv216) (by omega)) (by omega)
        · skip
          refine qr_aload_n 48 rfl (qm_gk g196 (by decide) (Or.inl (by decide))) rfl ?_
          refine qr_get 51 rfl rfl rfl (by decide) rfl ?_
          refine qr_bipush 53 rfl (by decide) rfl ?_
          refine qr_iload 55 rfl (qm_gk g201 (by decide) (Or.inr rfl)) rfl ?_
          refine qr_imul 56 rfl rfl ?_
          refine qr_iload_n 57 rfl (qm_gk g198 (by decide) (Or.inl (by decide))) rfl ?_
          refine qr_iadd 58 rfl rfl ?_
          refine qr_iload 60 rfl (qm_ge _ _ _) rfl ?_
          refine qr_iastore 61 rfl (by decide) rfl (by omega) (by decide) rfl ?_
          refine qy_wA (qw_r α204 96 (qzu (α204 96) (((32 * u202) + x2) : Int).toNat (v214 + 1))) rfl (fun α219 e220 => ?_)
          have hI221 : qI σ α219 κ ρ := by rw [e220]; exact qI_r96 hI205 _ (show 0 ≤ (v214 + 1) ∧ (v214 + 1) ≤ 99 by omega) (by have hw : σ 86 15 = (σ 86 15) := rfl; omega)
          have hF222 : qFr [] [96] σ α σ α219 := by rw [e220]; exact qFr_r hF206 96 _ (by decide)
          have hq223 := qS_u α204 (((32 * u202) + x2) : Int).toNat ((v214 + 1)) (by omega)
          rw [← e220] at hq223
          refine qr_iconst 62 rfl rfl ?_
          refine qr_istore_n _ 63 rfl (by decide) rfl rfl ?_
          refine qr_iinc _ 66 rfl (qm_gk (qm_gk g201 (by decide) (Or.inr rfl)) (by decide) (Or.inl (by decide))) (by decide) rfl rfl ?_
          refine qr_goto 5 rfl rfl ?_
          exact ih212 _ 1 (u202 + 1) α219 (by omega) (qm_gk (qm_gk (qm_gk g196 (by decide) (Or.inl (by decide))) (by decide) (Or.inl (by decide))) (by decide) (Or.inl (by decide))) (qm_gk (qm_gk (qm_gk g197 (by decide) (Or.inl (by decide))) (by decide) (Or.inl (by decide))) (by decide) (Or.inl (by decide))) (qm_gk (qm_gk (qm_gk g198 (by decide) (Or.inl (by decide))) (by decide) (Or.inr rfl)) (by decide) (Or.inl (by decide))) (qm_gk (qm_ge _ _ _) (by decide) (Or.inr rfl)) (qm_ge _ _ _) (by omega) (by omega) hI221 hF222 (by rw [(congrFun e220 96).trans qw_r_eq]; exact qNr_set hx209 p1 (by omega) (by omega) (by omega) (by omega) (by omega) (qTb_c hv214) (qTb_c hv216) (by omega)) (by omega)
  exact hL211 ((32 - 0 + 1 : Int)).toNat _ 0 0 α (by omega) rfl rfl rfl rfl rfl (by omega) (by omega) hI hF0 (qNr_0 p0) (by omega)

set_option maxHeartbeats 4000000 in
set_option maxRecDepth 20000 in
/-- OneRoofModel.findSteps -/
theorem sf_188_86 {L : Nat} {xs : Nat → Int} {vb : Bool} {d : Nat} {σ α : Nat → Nat → Int} {κ : Nat → Option Nat} {ρ : Nat}  (hI : qI σ α κ ρ) (p0 : σ 86 15 = 0) : qm_T (qe L xs vb) (d + 2) 188 [.ref 86] (qw σ α κ ρ) (fun r w' => ∃ σ' α', w' = qw σ' α' κ ρ ∧ qI σ' α' κ ρ ∧ qFr [(86, 15)] [96] σ α σ' α' ∧ σ' 86 15 = 1 ∧ r = none) := by
  refine qr_start (d := d + 1) qv_e188 (Nat.le_of_ble_eq_true rfl) ?_
  show qr_W (qe L xs vb) (d + 1) qx_e188 _ (0, [(0, .ref 86)], [], _, 0, 0)
  have hF0 := qFr_rf [(86, 15)] [96] σ α
  have q0 : ∀ x : Int, qPw (α 94) (α 95) (σ 86 11) 0 x x := fun x => ⟨by decide, fun _ => rfl⟩
  have q1 : ∀ x y : Int, qPw (α 94) (α 95) (σ 86 11) 99 x y := fun x y => ⟨by decide, fun h => absurd h (by decide)⟩
  have q2 : ∀ j : Nat, (j : Int) < σ 86 11 → qC1 (qPw (α 94) (α 95) (σ 86 11)) (σ 86 6) (α 94 j) (α 95 j) ∧ qC1 (qPw (α 94) (α 95) (σ 86 11)) (σ 86 6) (α 95 j) (α 94 j) := fun j hj => ⟨qPw_c1 ⟨j, hj, Or.inl ⟨rfl, rfl⟩⟩, qPw_c1 ⟨j, hj, Or.inr ⟨rfl, rfl⟩⟩⟩
  have q3 := hI.2.2.2.2.2.2.2.2.1
  have hz86_15 : 0 ≤ σ 86 15 ∧ σ 86 15 ≤ 1 := hI.1 86 15
  have hz86_6 : 0 ≤ σ 86 6 ∧ σ 86 6 ≤ 32 := hI.1 86 6
  have hz86_11 : 0 ≤ σ 86 11 ∧ σ 86 11 ≤ 61 := hI.1 86 11
  refine qr_iconst 1 rfl rfl ?_
  refine qr_istore_n _ 2 rfl (by decide) rfl rfl ?_
  have hL170556 : ∀ (n : Nat) (ls : qm_L) (u170549 : Int) (α170551 : Nat → Nat → Int), 32 - u170549 < (n : Int) → qm_get ls 0 = some (.ref 86) → qm_get ls 1 = some (.int (qz u170549)) → (0 ≤ u170549 ∧ u170549 ≤ 32) → qI σ α170551 κ ρ → qFr [(86, 15)] [96] σ α σ α170551 → qFi (α170551 96) (σ 86 6) u170549 0 → qr_W (qe L xs vb) (d + 1) qx_e188 (fun r w' => ∃ σ' α', w' = qw σ' α' κ ρ ∧ qI σ' α' κ ρ ∧ qFr [(86, 15)] [96] σ α σ' α' ∧ σ' 86 15 = 1 ∧ r = none) (2, ls, [], qw σ α170551 κ ρ, 0, 0) := by
    intro n
    induction n with
    | zero => intro ls u170549 α170551 hm g170547 g170548 hf170554 hI170552 hF170553 hx170555; exact False.elim (by omega)
    | succ n ih170557 =>
      intro ls u170549 α170551 hm g170547 g170548 hf170554 hI170552 hF170553 hx170555
      refine qr_iload_n 3 rfl g170548 rfl ?_
      refine qr_aload_n 4 rfl g170547 rfl ?_
      refine qr_get 7 rfl rfl rfl (by decide) rfl ?_
      refine qr_icmp_ge 54 10 rfl rfl rfl (by omega) (by omega) (fun h170558 => ?_) (fun h170558 => ?_)
      · skip
        refine qr_iconst 55 rfl rfl ?_
        refine qr_istore_n _ 56 rfl (by decide) rfl rfl ?_
        have hL179879 : ∀ (n : Nat) (ls : qm_L) (u179872 : Int) (α179874 : Nat → Nat → Int), ((2 * qS α179874 + u179872).toNat : Int) < (n : Int) → qm_get ls 0 = some (.ref 86) → qm_get ls 1 = some (.int (qz u179872)) → (0 ≤ u179872 ∧ u179872 ≤ 1) → qI σ α179874 κ ρ → qFr [(86, 15)] [96] σ α σ α179874 → qWh (qPw (α 94) (α 95) (σ 86 11)) (α179874 96) (α 94) (α 95) (σ 86 6) (if u179872 = 0 then σ 86 11 else 0) u179872 → qr_W (qe L xs vb) (d + 1) qx_e188 (fun r w' => ∃ σ' α', w' = qw σ' α' κ ρ ∧ qI σ' α' κ ρ ∧ qFr [(86, 15)] [96] σ α σ' α' ∧ σ' 86 15 = 1 ∧ r = none) (56, ls, [], qw σ α179874 κ ρ, 0, 0) := by
          intro n
          induction n with
          | zero => intro ls u179872 α179874 hm g179870 g179871 hf179877 hI179875 hF179876 hx179878; exact False.elim (by omega)
          | succ n ih179880 =>
            intro ls u179872 α179874 hm g179870 g179871 hf179877 hI179875 hF179876 hx179878
            have hq179881 := qS_nn hI179875
            refine qr_iload_n 57 rfl g179871 rfl ?_
            refine qr_if_eq 139 60 rfl rfl rfl (by omega) (fun h179882 => ?_) (fun h179882 => ?_)
            · skip
              refine qr_aload_n 140 rfl g179870 rfl ?_
              refine qr_iconst 141 rfl rfl ?_
              refine qr_put 144 rfl (by decide) rfl (Nat.le_of_ble_eq_true rfl) (Nat.le_of_ble_eq_true rfl) (Or.inl rfl) (qr_fitZ rfl (by omega)) rfl ?_
              refine qy_wS (qw_s σ 86 15 1) rfl (fun σ179883 e179884 => ?_)
              have hI179885 : qI σ179883 α179874 κ ρ := by rw [e179884]; exact qI_s15o hI179875 (by rw [hF179876.2 94 (by decide), hF179876.2 95 (by decide)]; exact qDi_rest q3 (fun x y hx hy => (hI179875.2.1 96 _ (show (x * 32 + y : Int).toNat < 1024 by omega)).2) (by have hq := hx179878; rw [if_pos (show u179872 = 0 by omega), show u179872 = 0 by omega] at hq; exact hq))
              have hF179886 : qFr [(86, 15)] [96] σ α σ179883 α179874 := by rw [e179884]; exact qFr_s hF179876 86 15 _ (by decide)
              refine qr_retV rfl rfl (by decide) (by decide) ?_
              exact ⟨_, _, rfl, hI179885, hF179886, (by have hw : σ179883 86 15 = 1 := (congrFun (congrFun e179884 86) 15).trans rfl; omega), rfl⟩
            · skip
              refine qr_iconst 61 rfl rfl ?_
              refine qr_istore_n _ 62 rfl (by decide) rfl rfl ?_
              refine qr_iconst 63 rfl rfl ?_
              refine qr_istore_n _ 64 rfl (by decide) rfl rfl ?_
              have hL181684 : ∀ (n : Nat) (ls : qm_L) (u181672 u181674 : Int) (α181676 : Nat → Nat → Int), 61 - u181674 < (n : Int) → qm_get ls 0 = some (.ref 86) → qm_get ls 1 = some (.int (qz u181672)) → qm_get ls 2 = some (.int (qz u181674)) → (0 ≤ u181672 ∧ u181672 ≤ 1) → (0 ≤ u181674 ∧ u181674 ≤ 61) → qI σ α181676 κ ρ → qFr [(86, 15)] [96] σ α σ α181676 → qWh (qPw (α 94) (α 95) (σ 86 11)) (α181676 96) (α 94) (α 95) (σ 86 6) u181674 u181672 → (qS α181676 ≤ qS α179874 ∧ (u181672 = 1 → qS α181676 < qS α179874)) → u181674 ≤ σ 86 11 → qr_W (qe L xs vb) (d + 1) qx_e188 (fun r w' => ∃ σ' α', w' = qw σ' α' κ ρ ∧ qI σ' α' κ ρ ∧ qFr [(86, 15)] [96] σ α σ' α' ∧ σ' 86 15 = 1 ∧ r = none) (64, ls, [], qw σ α181676 κ ρ, 0, 0) := by
                intro n
                induction n with
                | zero => intro ls u181672 u181674 α181676 hm g181670 g181671 g181673 hf181679 hf181680 hI181677 hF181678 hx181681 hx181682 hx181683; exact False.elim (by omega)
                | succ n ih181685 =>
                  intro ls u181672 u181674 α181676 hm g181670 g181671 g181673 hf181679 hf181680 hI181677 hF181678 hx181681 hx181682 hx181683
                  refine qr_iload_n 65 rfl g181673 rfl ?_
                  refine qr_aload_n 66 rfl g181670 rfl ?_
                  refine qr_get 69 rfl rfl rfl (by decide) rfl ?_
                  refine qr_icmp_ge 136 72 rfl rfl rfl (by omega) (by omega) (fun h181686 => ?_) (fun h181686 => ?_)
                  · skip
                    refine qr_goto 56 rfl rfl ?_
                    exact ih179880 _ u181672 α181676 (by omega) g181670 g181671 (by omega) hI181677 hF181678 (by split; (have hq := hx181681; rw [show u181674 = σ 86 11 by omega] at hq; exact hq); (exact qWh_0 hx181681))
                  · skip
                    refine qr_aload_n 73 rfl g181670 rfl ?_
                    refine qr_aload_n 74 rfl g181670 rfl ?_
                    refine qr_get 77 rfl rfl rfl (by decide) rfl ?_
                    refine qr_iload_n 78 rfl g181673 rfl ?_
                    refine qr_iaload 79 rfl rfl (by omega) (by decide) rfl ?_
                    refine qr_topI (fun v181687 hv181687 => ?_)
                    have hs181688 : 0 ≤ v181687 ∧ v181687 ≤ 31 := by rw [hv181687]; exact hI181677.2.1 94 _ (show _ < 61 by omega)
                    refine qr_aload_n 80 rfl g181670 rfl ?_
                    refine qr_get 83 rfl rfl rfl (by decide) rfl ?_
                    refine qr_iload_n 84 rfl g181673 rfl ?_
                    refine qr_iaload 85 rfl rfl (by omega) (by decide) rfl ?_
                    refine qr_topI (fun v181689 hv181689 => ?_)
                    have hs181690 : 0 ≤ v181689 ∧ v181689 ≤ 31 := by rw [hv181689]; exact hI181677.2.1 95 _ (show _ < 61 by omega)
                    have ev181691 : v181687 = α 94 (u181674 : Int).toNat := hv181687.trans (congrFun (hF181678.2 94 (by decide)) _)
                    have ev181692 : v181689 = α 95 (u181674 : Int).toNat := hv181689.trans (congrFun (hF181678.2 95 (by decide)) _)
                    have hc181693 := q2 (u181674 : Int).toNat (by omega)
                    have hc181694 := q3 (u181674 : Int).toNat (by omega)
                    rw [← ev181691, ← ev181692] at hc181693 hc181694
                    have hs181695 : 0 ≤ σ 86 15 ∧ σ 86 15 ≤ 1 := hI181677.1 86 15
                    have hs181696 : 0 ≤ σ 86 6 ∧ σ 86 6 ≤ 32 := hI181677.1 86 6
                    refine qr_callN 88 rfl rfl rfl (sf_189_86s (d := d + 0) hI181677 (by omega) (by omega) (fun x y hx hy => hx181681.1 x y hx hy) hc181693.1 (by omega) (by omega)) ?_
                    rintro _ _ ⟨α181700, rfl, hI181701, hG181702, v181697, rfl, hv181697, hp181698, hx181699⟩
                    have hF181703 : qFr [(86, 15)] [96] σ α σ α181700 := qFr_t hF181678 hG181702 (by decide) (by decide)
                    show qr_W (qe L xs vb) (d + 1) qx_e188 _ (88, _, [.int (qz v181697)], qw σ α181700 κ ρ, 0, 0)
                    refine qr_if_ne 95 91 rfl rfl rfl (by omega) (fun h181704 => ?_) (fun h181704 => ?_)
                    · skip
                      refine qr_iconst 96 rfl rfl ?_
                      refine qr_goto 100 rfl rfl ?_
                      refine qr_istore_n _ 101 rfl (by decide) rfl rfl ?_
                      refine qr_aload_n 102 rfl (qm_gk g181670 (by decide) (Or.inr rfl)) rfl ?_
                      refine qr_aload_n 103 rfl (qm_gk g181670 (by decide) (Or.inr rfl)) rfl ?_
                      refine qr_get 106 rfl rfl rfl (by decide) rfl ?_
                      refine qr_iload_n 107 rfl (qm_gk g181673 (by decide) (Or.inl (by decide))) rfl ?_
                      refine qr_iaload 108 rfl rfl (by omega) (by decide) rfl ?_
                      refine qr_topI (fun v181705 hv181705 => ?_)
                      have hs181706 : 0 ≤ v181705 ∧ v181705 ≤ 31 := by rw [hv181705]; exact hI181701.2.1 95 _ (show _ < 61 by omega)
                      refine qr_aload_n 109 rfl (qm_gk g181670 (by decide) (Or.inr rfl)) rfl ?_
                      refine qr_get 112 rfl rfl rfl (by decide) rfl ?_
                      refine qr_iload_n 113 rfl (qm_gk g181673 (by decide) (Or.inl (by decide))) rfl ?_
                      refine qr_iaload 114 rfl rfl (by omega) (by decide) rfl ?_
                      refine qr_topI (fun v181707 hv181707 => ?_)
                      have hs181708 : 0 ≤ v181707 ∧ v181707 ≤ 31 := by rw [hv181707]; exact hI181701.2.1 94 _ (show _ < 61 by omega)
                      have ev181709 : v181705 = α 95 (u181674 : Int).toNat := hv181705.trans (congrFun (hF181703.2 95 (by decide)) _)
                      have ev181710 : v181707 = α 94 (u181674 : Int).toNat := hv181707.trans (congrFun (hF181703.2 94 (by decide)) _)
                      have hc181711 := q2 (u181674 : Int).toNat (by omega)
                      have hc181712 := q3 (u181674 : Int).toNat (by omega)
                      rw [← ev181709, ← ev181710] at hc181711 hc181712
                      have hs181713 : 0 ≤ σ 86 15 ∧ σ 86 15 ≤ 1 := hI181701.1 86 15
                      have hs181714 : 0 ≤ σ 86 6 ∧ σ 86 6 ≤ 32 := hI181701.1 86 6
                      refine qr_callN 117 rfl rfl rfl (sf_189_86s (d := d + 0) hI181701 (by omega) (by omega) (fun x y hx hy => hx181699.2.1 x y hx hy) hc181711.2 (by omega) (by omega)) ?_
                      rintro _ _ ⟨α181718, rfl, hI181719, hG181720, v181715, rfl, hv181715, hp181716, hx181717⟩
                      have hF181721 : qFr [(86, 15)] [96] σ α σ α181718 := qFr_t hF181703 hG181720 (by decide) (by decide)
                      show qr_W (qe L xs vb) (d + 1) qx_e188 _ (117, _, [.int (qz v181715)], qw σ α181718 κ ρ, 0, 0)
                      refine qr_if_ne 124 120 rfl rfl rfl (by omega) (fun h181722 => ?_) (fun h181722 => ?_)
                      · skip
                        refine qr_iconst 125 rfl rfl ?_
                        refine qr_goto 129 rfl rfl ?_
                        refine qr_istore_n _ 130 rfl (by decide) rfl rfl ?_
                        refine qr_iinc _ 133 rfl (qm_gk (qm_gk g181673 (by decide) (Or.inl (by decide))) (by decide) (Or.inl (by decide))) (by decide) rfl rfl ?_
                        refine qr_goto 64 rfl rfl ?_
                        exact ih181685 _ 1 (u181674 + 1) α181718 (by omega) (qm_gk (qm_gk (qm_gk g181670 (by decide) (Or.inr rfl)) (by decide) (Or.inr rfl)) (by decide) (Or.inl (by decide))) (qm_gk (qm_ge _ _ _) (by decide) (Or.inr rfl)) (qm_ge _ _ _) (by omega) (by omega) hI181719 hF181721 (qWh_s hx181681 hx181699 hx181717 ev181691 ev181692 ev181710 ev181709 (by omega) (by omega)) (by omega) (by omega)
                      · skip
                        refine qr_iload_n 121 rfl (qm_ge _ _ _) rfl ?_
                        refine qr_if_eq 128 124 rfl rfl rfl (by omega) (fun h => False.elim (by omega)) (fun h181723 => ?_)
                        refine qr_iconst 125 rfl rfl ?_
                        refine qr_goto 129 rfl rfl ?_
                        refine qr_istore_n _ 130 rfl (by decide) rfl rfl ?_
                        refine qr_iinc _ 133 rfl (qm_gk (qm_gk g181673 (by decide) (Or.inl (by decide))) (by decide) (Or.inl (by decide))) (by decide) rfl rfl ?_
                        refine qr_goto 64 rfl rfl ?_
                        exact ih181685 _ 1 (u181674 + 1) α181718 (by omega) (qm_gk (qm_gk (qm_gk g181670 (by decide) (Or.inr rfl)) (by decide) (Or.inr rfl)) (by decide) (Or.inl (by decide))) (qm_gk (qm_ge _ _ _) (by decide) (Or.inr rfl)) (qm_ge _ _ _) (by omega) (by omega) hI181719 hF181721 (qWh_s hx181681 hx181699 hx181717 ev181691 ev181692 ev181710 ev181709 (by omega) (by omega)) (by omega) (by omega)
                    · skip
                      refine qr_iload_n 92 rfl g181671 rfl ?_
                      refine qr_if_eq 99 95 rfl rfl rfl (by omega) (fun h181724 => ?_) (fun h181724 => ?_)
                      · skip
                        refine qr_iconst 100 rfl rfl ?_
                        refine qr_istore_n _ 101 rfl (by decide) rfl rfl ?_
                        refine qr_aload_n 102 rfl (qm_gk g181670 (by decide) (Or.inr rfl)) rfl ?_
                        refine qr_aload_n 103 rfl (qm_gk g181670 (by decide) (Or.inr rfl)) rfl ?_
                        refine qr_get 106 rfl rfl rfl (by decide) rfl ?_
                        refine qr_iload_n 107 rfl (qm_gk g181673 (by decide) (Or.inl (by decide))) rfl ?_
                        refine qr_iaload 108 rfl rfl (by omega) (by decide) rfl ?_
                        refine qr_topI (fun v181725 hv181725 => ?_)
                        have hs181726 : 0 ≤ v181725 ∧ v181725 ≤ 31 := by rw [hv181725]; exact hI181701.2.1 95 _ (show _ < 61 by omega)
                        refine qr_aload_n 109 rfl (qm_gk g181670 (by decide) (Or.inr rfl)) rfl ?_
                        refine qr_get 112 rfl rfl rfl (by decide) rfl ?_
                        refine qr_iload_n 113 rfl (qm_gk g181673 (by decide) (Or.inl (by decide))) rfl ?_
                        refine qr_iaload 114 rfl rfl (by omega) (by decide) rfl ?_
                        refine qr_topI (fun v181727 hv181727 => ?_)
                        have hs181728 : 0 ≤ v181727 ∧ v181727 ≤ 31 := by rw [hv181727]; exact hI181701.2.1 94 _ (show _ < 61 by omega)
                        have ev181729 : v181725 = α 95 (u181674 : Int).toNat := hv181725.trans (congrFun (hF181703.2 95 (by decide)) _)
                        have ev181730 : v181727 = α 94 (u181674 : Int).toNat := hv181727.trans (congrFun (hF181703.2 94 (by decide)) _)
                        have hc181731 := q2 (u181674 : Int).toNat (by omega)
                        have hc181732 := q3 (u181674 : Int).toNat (by omega)
                        rw [← ev181729, ← ev181730] at hc181731 hc181732
                        have hs181733 : 0 ≤ σ 86 15 ∧ σ 86 15 ≤ 1 := hI181701.1 86 15
                        have hs181734 : 0 ≤ σ 86 6 ∧ σ 86 6 ≤ 32 := hI181701.1 86 6
                        refine qr_callN 117 rfl rfl rfl (sf_189_86s (d := d + 0) hI181701 (by omega) (by omega) (fun x y hx hy => hx181699.2.1 x y hx hy) hc181731.2 (by omega) (by omega)) ?_
                        rintro _ _ ⟨α181738, rfl, hI181739, hG181740, v181735, rfl, hv181735, hp181736, hx181737⟩
                        have hF181741 : qFr [(86, 15)] [96] σ α σ α181738 := qFr_t hF181703 hG181740 (by decide) (by decide)
                        show qr_W (qe L xs vb) (d + 1) qx_e188 _ (117, _, [.int (qz v181735)], qw σ α181738 κ ρ, 0, 0)
                        refine qr_if_ne 124 120 rfl rfl rfl (by omega) (fun h181742 => ?_) (fun h181742 => ?_)
                        · skip
                          refine qr_iconst 125 rfl rfl ?_
                          refine qr_goto 129 rfl rfl ?_
                          refine qr_istore_n _ 130 rfl (by decide) rfl rfl ?_
                          refine qr_iinc _ 133 rfl (qm_gk (qm_gk g181673 (by decide) (Or.inl (by decide))) (by decide) (Or.inl (by decide))) (by decide) rfl rfl ?_
                          refine qr_goto 64 rfl rfl ?_
                          exact ih181685 _ 1 (u181674 + 1) α181738 (by omega) (qm_gk (qm_gk (qm_gk g181670 (by decide) (Or.inr rfl)) (by decide) (Or.inr rfl)) (by decide) (Or.inl (by decide))) (qm_gk (qm_ge _ _ _) (by decide) (Or.inr rfl)) (qm_ge _ _ _) (by omega) (by omega) hI181739 hF181741 (qWh_s hx181681 hx181699 hx181737 ev181691 ev181692 ev181730 ev181729 (by omega) (by omega)) (by omega) (by omega)
                        · skip
                          refine qr_iload_n 121 rfl (qm_ge _ _ _) rfl ?_
                          refine qr_if_eq 128 124 rfl rfl rfl (by omega) (fun h181743 => ?_) (fun h => False.elim (by omega))
                          refine qr_iconst 129 rfl rfl ?_
                          refine qr_istore_n _ 130 rfl (by decide) rfl rfl ?_
                          refine qr_iinc _ 133 rfl (qm_gk (qm_gk g181673 (by decide) (Or.inl (by decide))) (by decide) (Or.inl (by decide))) (by decide) rfl rfl ?_
                          refine qr_goto 64 rfl rfl ?_
                          exact ih181685 _ 0 (u181674 + 1) α181738 (by omega) (qm_gk (qm_gk (qm_gk g181670 (by decide) (Or.inr rfl)) (by decide) (Or.inr rfl)) (by decide) (Or.inl (by decide))) (qm_gk (qm_ge _ _ _) (by decide) (Or.inr rfl)) (qm_ge _ _ _) (by omega) (by omega) hI181739 hF181741 (qWh_s hx181681 hx181699 hx181737 ev181691 ev181692 ev181730 ev181729 (by omega) (by omega)) (by omega) (by omega)
                      · skip
                        refine qr_iconst 96 rfl rfl ?_
                        refine qr_goto 100 rfl rfl ?_
                        refine qr_istore_n _ 101 rfl (by decide) rfl rfl ?_
                        refine qr_aload_n 102 rfl (qm_gk g181670 (by decide) (Or.inr rfl)) rfl ?_
                        refine qr_aload_n 103 rfl (qm_gk g181670 (by decide) (Or.inr rfl)) rfl ?_
                        refine qr_get 106 rfl rfl rfl (by decide) rfl ?_
                        refine qr_iload_n 107 rfl (qm_gk g181673 (by decide) (Or.inl (by decide))) rfl ?_
                        refine qr_iaload 108 rfl rfl (by omega) (by decide) rfl ?_
                        refine qr_topI (fun v181744 hv181744 => ?_)
                        have hs181745 : 0 ≤ v181744 ∧ v181744 ≤ 31 := by rw [hv181744]; exact hI181701.2.1 95 _ (show _ < 61 by omega)
                        refine qr_aload_n 109 rfl (qm_gk g181670 (by decide) (Or.inr rfl)) rfl ?_
                        refine qr_get 112 rfl rfl rfl (by decide) rfl ?_
                        refine qr_iload_n 113 rfl (qm_gk g181673 (by decide) (Or.inl (by decide))) rfl ?_
                        refine qr_iaload 114 rfl rfl (by omega) (by decide) rfl ?_
                        refine qr_topI (fun v181746 hv181746 => ?_)
                        have hs181747 : 0 ≤ v181746 ∧ v181746 ≤ 31 := by rw [hv181746]; exact hI181701.2.1 94 _ (show _ < 61 by omega)
                        have ev181748 : v181744 = α 95 (u181674 : Int).toNat := hv181744.trans (congrFun (hF181703.2 95 (by decide)) _)
                        have ev181749 : v181746 = α 94 (u181674 : Int).toNat := hv181746.trans (congrFun (hF181703.2 94 (by decide)) _)
                        have hc181750 := q2 (u181674 : Int).toNat (by omega)
                        have hc181751 := q3 (u181674 : Int).toNat (by omega)
                        rw [← ev181748, ← ev181749] at hc181750 hc181751
                        have hs181752 : 0 ≤ σ 86 15 ∧ σ 86 15 ≤ 1 := hI181701.1 86 15
                        have hs181753 : 0 ≤ σ 86 6 ∧ σ 86 6 ≤ 32 := hI181701.1 86 6
                        refine qr_callN 117 rfl rfl rfl (sf_189_86s (d := d + 0) hI181701 (by omega) (by omega) (fun x y hx hy => hx181699.2.1 x y hx hy) hc181750.2 (by omega) (by omega)) ?_
                        rintro _ _ ⟨α181757, rfl, hI181758, hG181759, v181754, rfl, hv181754, hp181755, hx181756⟩
                        have hF181760 : qFr [(86, 15)] [96] σ α σ α181757 := qFr_t hF181703 hG181759 (by decide) (by decide)
                        show qr_W (qe L xs vb) (d + 1) qx_e188 _ (117, _, [.int (qz v181754)], qw σ α181757 κ ρ, 0, 0)
                        refine qr_if_ne 124 120 rfl rfl rfl (by omega) (fun h181761 => ?_) (fun h181761 => ?_)
                        · skip
                          refine qr_iconst 125 rfl rfl ?_
                          refine qr_goto 129 rfl rfl ?_
                          refine qr_istore_n _ 130 rfl (by decide) rfl rfl ?_
                          refine qr_iinc _ 133 rfl (qm_gk (qm_gk g181673 (by decide) (Or.inl (by decide))) (by decide) (Or.inl (by decide))) (by decide) rfl rfl ?_
                          refine qr_goto 64 rfl rfl ?_
                          exact ih181685 _ 1 (u181674 + 1) α181757 (by omega) (qm_gk (qm_gk (qm_gk g181670 (by decide) (Or.inr rfl)) (by decide) (Or.inr rfl)) (by decide) (Or.inl (by decide))) (qm_gk (qm_ge _ _ _) (by decide) (Or.inr rfl)) (qm_ge _ _ _) (by omega) (by omega) hI181758 hF181760 (qWh_s hx181681 hx181699 hx181756 ev181691 ev181692 ev181749 ev181748 (by omega) (by omega)) (by omega) (by omega)
                        · skip
                          refine qr_iload_n 121 rfl (qm_ge _ _ _) rfl ?_
                          refine qr_if_eq 128 124 rfl rfl rfl (by omega) (fun h => False.elim (by omega)) (fun h181762 => ?_)
                          refine qr_iconst 125 rfl rfl ?_
                          refine qr_goto 129 rfl rfl ?_
                          refine qr_istore_n _ 130 rfl (by decide) rfl rfl ?_
                          refine qr_iinc _ 133 rfl (qm_gk (qm_gk g181673 (by decide) (Or.inl (by decide))) (by decide) (Or.inl (by decide))) (by decide) rfl rfl ?_
                          refine qr_goto 64 rfl rfl ?_
                          exact ih181685 _ 1 (u181674 + 1) α181757 (by omega) (qm_gk (qm_gk (qm_gk g181670 (by decide) (Or.inr rfl)) (by decide) (Or.inr rfl)) (by decide) (Or.inl (by decide))) (qm_gk (qm_ge _ _ _) (by decide) (Or.inr rfl)) (qm_ge _ _ _) (by omega) (by omega) hI181758 hF181760 (qWh_s hx181681 hx181699 hx181756 ev181691 ev181692 ev181749 ev181748 (by omega) (by omega)) (by omega) (by omega)
              exact hL181684 ((61 - 0 + 1 : Int)).toNat _ 0 0 α179874 (by omega) (qm_gk (qm_gk g179870 (by decide) (Or.inr rfl)) (by decide) (Or.inl (by decide))) (qm_gk (qm_ge _ _ _) (by decide) (Or.inr rfl)) (qm_ge _ _ _) (by omega) (by omega) hI179875 hF179876 (qWh_0 hx179878) (by omega) (by omega)
        exact hL179879 ((((2 * qS α170551 + 1).toNat : Int) + 1 : Int)).toNat _ 1 α170551 (by omega) (qm_gk g170547 (by decide) (Or.inr rfl)) (qm_ge _ _ _) (by omega) hI170552 hF170553 (qWh_i hx170555 (by omega) q0 q1)
      · skip
        refine qr_iconst 11 rfl rfl ?_
        refine qr_istore_n _ 12 rfl (by decide) rfl rfl ?_
        have hL181953 : ∀ (n : Nat) (ls : qm_L) (u181946 : Int) (α181948 : Nat → Nat → Int), 32 - u181946 < (n : Int) → qm_get ls 0 = some (.ref 86) → qm_get ls 1 = some (.int (qz u170549)) → qm_get ls 2 = some (.int (qz u181946)) → (0 ≤ u181946 ∧ u181946 ≤ 32) → qI σ α181948 κ ρ → qFr [(86, 15)] [96] σ α σ α181948 → qFi (α181948 96) (σ 86 6) u170549 u181946 → qr_W (qe L xs vb) (d + 1) qx_e188 (fun r w' => ∃ σ' α', w' = qw σ' α' κ ρ ∧ qI σ' α' κ ρ ∧ qFr [(86, 15)] [96] σ α σ' α' ∧ σ' 86 15 = 1 ∧ r = none) (12, ls, [], qw σ α181948 κ ρ, 0, 0) := by
          intro n
          induction n with
          | zero => intro ls u181946 α181948 hm g181943 g181944 g181945 hf181951 hI181949 hF181950 hx181952; exact False.elim (by omega)
          | succ n ih181954 =>
            intro ls u181946 α181948 hm g181943 g181944 g181945 hf181951 hI181949 hF181950 hx181952
            refine qr_iload_n 13 rfl g181945 rfl ?_
            refine qr_aload_n 14 rfl g181943 rfl ?_
            refine qr_get 17 rfl rfl rfl (by decide) rfl ?_
            refine qr_icmp_ge 48 20 rfl rfl rfl (by omega) (by omega) (fun h181955 => ?_) (fun h181955 => ?_)
            · skip
              refine qr_iinc _ 51 rfl g181944 (by decide) rfl rfl ?_
              refine qr_goto 2 rfl rfl ?_
              exact ih170557 _ (u170549 + 1) α181948 (by omega) (qm_gk g181943 (by decide) (Or.inr rfl)) (qm_ge _ _ _) (by omega) hI181949 hF181950 (qFi_row hx181952 (by omega))
            · skip
              refine qr_aload_n 21 rfl g181943 rfl ?_
              refine qr_get 24 rfl rfl rfl (by decide) rfl ?_
              refine qr_bipush 26 rfl (by decide) rfl ?_
              refine qr_iload_n 27 rfl g181944 rfl ?_
              refine qr_imul 28 rfl rfl ?_
              refine qr_iload_n 29 rfl g181945 rfl ?_
              refine qr_iadd 30 rfl rfl ?_
              refine qr_iload_n 31 rfl g181944 rfl ?_
              refine qr_iload_n 32 rfl g181945 rfl ?_
              refine qr_icmp_ne 39 35 rfl rfl rfl (by omega) (by omega) (fun h181956 => ?_) (fun h181956 => ?_)
              · skip
                refine qr_bipush 41 rfl (by decide) rfl ?_
                refine qr_iastore 42 rfl (by decide) rfl (by omega) (by decide) rfl ?_
                refine qy_wA (qw_r α181948 96 (qzu (α181948 96) (((32 * u170549) + u181946) : Int).toNat 99)) rfl (fun α181957 e181958 => ?_)
                have hI181959 : qI σ α181957 κ ρ := by rw [e181958]; exact qI_r96 hI181949 _ (show 0 ≤ 99 ∧ 99 ≤ 99 by omega) (by have hw : σ 86 15 = (σ 86 15) := rfl; omega)
                have hF181960 : qFr [(86, 15)] [96] σ α σ α181957 := by rw [e181958]; exact qFr_r hF181950 96 _ (by decide)
                refine qr_iinc _ 45 rfl g181945 (by decide) rfl rfl ?_
                refine qr_goto 12 rfl rfl ?_
                exact ih181954 _ (u181946 + 1) α181957 (by omega) (qm_gk g181943 (by decide) (Or.inl (by decide))) (qm_gk g181944 (by decide) (Or.inr rfl)) (qm_ge _ _ _) (by omega) hI181959 hF181960 (by rw [(congrFun e181958 96).trans qw_r_eq]; exact qFi_set hx181952 (by omega) (by omega) (by omega) (by congr 1; omega) (by first | (rw [if_pos (by omega)]) | (rw [if_neg (by omega)])))
              · skip
                refine qr_iconst 36 rfl rfl ?_
                refine qr_goto 41 rfl rfl ?_
                refine qr_iastore 42 rfl (by decide) rfl (by omega) (by decide) rfl ?_
                refine qy_wA (qw_r α181948 96 (qzu (α181948 96) (((32 * u170549) + u181946) : Int).toNat 0)) rfl (fun α181961 e181962 => ?_)
                have hI181963 : qI σ α181961 κ ρ := by rw [e181962]; exact qI_r96 hI181949 _ (show 0 ≤ 0 ∧ 0 ≤ 99 by omega) (by have hw : σ 86 15 = (σ 86 15) := rfl; omega)
                have hF181964 : qFr [(86, 15)] [96] σ α σ α181961 := by rw [e181962]; exact qFr_r hF181950 96 _ (by decide)
                refine qr_iinc _ 45 rfl g181945 (by decide) rfl rfl ?_
                refine qr_goto 12 rfl rfl ?_
                exact ih181954 _ (u181946 + 1) α181961 (by omega) (qm_gk g181943 (by decide) (Or.inl (by decide))) (qm_gk g181944 (by decide) (Or.inr rfl)) (qm_ge _ _ _) (by omega) hI181963 hF181964 (by rw [(congrFun e181962 96).trans qw_r_eq]; exact qFi_set hx181952 (by omega) (by omega) (by omega) (by congr 1; omega) (by first | (rw [if_pos (by omega)]) | (rw [if_neg (by omega)])))
        exact hL181953 ((32 - 0 + 1 : Int)).toNat _ 0 α170551 (by omega) (qm_gk g170547 (by decide) (Or.inl (by decide))) (qm_gk g170548 (by decide) (Or.inr rfl)) (qm_ge _ _ _) (by omega) hI170552 hF170553 hx170555
  exact hL170556 ((32 - 0 + 1 : Int)).toNat _ 0 α (by omega) rfl rfl (by omega) hI hF0 qFi_0

set_option maxHeartbeats 4000000 in
set_option maxRecDepth 20000 in
/-- OneRoofModel.stepsTo -/
theorem sf_187_86 {L : Nat} {xs : Nat → Int} {vb : Bool} {d : Nat} {σ α : Nat → Nat → Int} {κ : Nat → Option Nat} {ρ : Nat} {x1 : Int} {x2 : Int} (hI : qI σ α κ ρ) (r1 : 0 ≤ x1 ∧ x1 ≤ 31) (r2 : 0 ≤ x2 ∧ x2 ≤ 31) : qm_T (qe L xs vb) (d + 3) 187 [.ref 86, .int (qz x1), .int (qz x2)] (qw σ α κ ρ) (fun r w' => ∃ σ' α', w' = qw σ' α' κ ρ ∧ qI σ' α' κ ρ ∧ qFr [(86, 15)] [96] σ α σ' α' ∧ σ' 86 15 = 1 ∧ ∃ v : Int, r = some (.int (qz v)) ∧ (0 ≤ v ∧ v ≤ 99) ∧ ((v = α' 96 (32 * x1 + x2 : Int).toNat ∧ v ≤ 9) ∨ (v = 99 ∧ 9 < α' 96 (32 * x1 + x2 : Int).toNat))) := by
  refine qr_start (d := d + 2) qv_e187 (Nat.le_of_ble_eq_true rfl) ?_
  show qr_W (qe L xs vb) (d + 2) qx_e187 _ (0, [(0, .ref 86), (1, .int (qz x1)), (2, .int (qz x2))], [], _, 0, 0)
  have hF0 := qFr_rf [(86, 15)] [96] σ α
  have hz86_15 : 0 ≤ σ 86 15 ∧ σ 86 15 ≤ 1 := hI.1 86 15
  refine qr_aload_n 1 rfl rfl rfl ?_
  refine qr_get 4 rfl rfl rfl (by decide) rfl ?_
  refine qr_if_ne 11 7 rfl rfl rfl (by omega) (fun h1 => ?_) (fun h1 => ?_)
  · skip
    refine qr_aload_n 12 rfl rfl rfl ?_
    refine qr_get 15 rfl rfl rfl (by decide) rfl ?_
    refine qr_bipush 17 rfl (by decide) rfl ?_
    refine qr_iload_n 18 rfl rfl rfl ?_
    refine qr_imul 19 rfl rfl ?_
    refine qr_iload_n 20 rfl rfl rfl ?_
    refine qr_iadd 21 rfl rfl ?_
    refine qr_iaload 22 rfl rfl (by omega) (by decide) rfl ?_
    refine qr_topI (fun v2 hv2 => ?_)
    have hs3 : 0 ≤ v2 ∧ v2 ≤ 99 := by rw [hv2]; exact hI.2.1 96 _ (show _ < 1024 by omega)
    refine qr_istore_n _ 23 rfl (by decide) rfl rfl ?_
    refine qr_iload_n 24 rfl rfl rfl ?_
    refine qr_bipush 26 rfl (by decide) rfl ?_
    refine qr_icmp_le 34 29 rfl rfl rfl (by omega) (by omega) (fun h4 => ?_) (fun h4 => ?_)
    · skip
      refine qr_iload_n 35 rfl rfl rfl ?_
      refine qr_retI rfl rfl (by decide) (by decide) ?_
      exact ⟨_, _, rfl, hI, hF0, (by have hw : σ 86 15 = (σ 86 15) := rfl; omega), v2, rfl, by omega, by omega⟩
    · skip
      refine qr_bipush 31 rfl (by decide) rfl ?_
      refine qr_goto 35 rfl rfl ?_
      refine qr_retI rfl rfl (by decide) (by decide) ?_
      exact ⟨_, _, rfl, hI, hF0, (by have hw : σ 86 15 = (σ 86 15) := rfl; omega), 99, rfl, by omega, by omega⟩
  · skip
    refine qr_aload_n 8 rfl rfl rfl ?_
    have hs5 : 0 ≤ σ 86 15 ∧ σ 86 15 ≤ 1 := hI.1 86 15
    refine qr_callN 11 rfl rfl rfl (sf_188_86 (d := d + 0) hI (by omega)) ?_
    rintro _ _ ⟨σ7, α8, rfl, hI9, hG10, hw6, rfl⟩
    have hF11 : qFr [(86, 15)] [96] σ α σ7 α8 := qFr_t hF0 hG10 (by decide) (by decide)
    have hs12 : 0 ≤ σ7 86 15 ∧ σ7 86 15 ≤ 1 := hI9.1 86 15
    show qr_W (qe L xs vb) (d + 2) qx_e187 _ (11, _, [], qw σ7 α8 κ ρ, 0, 0)
    refine qr_aload_n 12 rfl rfl rfl ?_
    refine qr_get 15 rfl rfl rfl (by decide) rfl ?_
    refine qr_bipush 17 rfl (by decide) rfl ?_
    refine qr_iload_n 18 rfl rfl rfl ?_
    refine qr_imul 19 rfl rfl ?_
    refine qr_iload_n 20 rfl rfl rfl ?_
    refine qr_iadd 21 rfl rfl ?_
    refine qr_iaload 22 rfl rfl (by omega) (by decide) rfl ?_
    refine qr_topI (fun v13 hv13 => ?_)
    have hs14 : 0 ≤ v13 ∧ v13 ≤ 99 := by rw [hv13]; exact hI9.2.1 96 _ (show _ < 1024 by omega)
    refine qr_istore_n _ 23 rfl (by decide) rfl rfl ?_
    refine qr_iload_n 24 rfl rfl rfl ?_
    refine qr_bipush 26 rfl (by decide) rfl ?_
    refine qr_icmp_le 34 29 rfl rfl rfl (by omega) (by omega) (fun h15 => ?_) (fun h15 => ?_)
    · skip
      refine qr_iload_n 35 rfl rfl rfl ?_
      refine qr_retI rfl rfl (by decide) (by decide) ?_
      exact ⟨_, _, rfl, hI9, hF11, (by have hw : σ7 86 15 = (σ7 86 15) := rfl; omega), v13, rfl, by omega, by omega⟩
    · skip
      refine qr_bipush 31 rfl (by decide) rfl ?_
      refine qr_goto 35 rfl rfl ?_
      refine qr_retI rfl rfl (by decide) (by decide) ?_
      exact ⟨_, _, rfl, hI9, hF11, (by have hw : σ7 86 15 = (σ7 86 15) := rfl; omega), 99, rfl, by omega, by omega⟩

set_option maxHeartbeats 4000000 in
set_option maxRecDepth 20000 in
/-- OneRoofModel.steps -/
theorem sf_186_86 {L : Nat} {xs : Nat → Int} {vb : Bool} {d : Nat} {σ α : Nat → Nat → Int} {κ : Nat → Option Nat} {ρ : Nat} {x1 : Int} {x2 : Int} (hI : qI σ α κ ρ) (r1 : (-2147483648) ≤ x1 ∧ x1 ≤ 2147483647) (r2 : (-2147483648) ≤ x2 ∧ x2 ≤ 2147483647) : qm_T (qe L xs vb) (d + 4) 186 [.ref 86, .int (qz x1), .int (qz x2)] (qw σ α κ ρ) (fun r w' => ∃ σ' α', w' = qw σ' α' κ ρ ∧ qI σ' α' κ ρ ∧ qFr [(86, 15)] [96] σ α σ' α' ∧ ∃ v : Int, r = some (.int (qz v)) ∧ ((-2147483648) ≤ v ∧ v ≤ 2147483647)) := by
  refine qr_start (d := d + 3) qv_e186 (Nat.le_of_ble_eq_true rfl) ?_
  show qr_W (qe L xs vb) (d + 3) qx_e186 _ (0, [(0, .ref 86), (1, .int (qz x1)), (2, .int (qz x2))], [], _, 0, 0)
  have hF0 := qFr_rf [(86, 15)] [96] σ α
  refine qr_aload_n 1 rfl rfl rfl ?_
  refine qr_iload_n 2 rfl rfl rfl ?_
  refine qr_callN 5 rfl rfl rfl (sf_180_86 (d := d + 1) hI (by omega)) ?_
  have hs3 : 0 ≤ σ 86 6 ∧ σ 86 6 ≤ 32 := hI.1 86 6
  rintro _ _ ⟨rfl, v1, rfl, hv1, hp2⟩
  show qr_W (qe L xs vb) (d + 3) qx_e186 _ (5, _, [.int (qz v1)], qw σ α κ ρ, 0, 0)
  refine qr_if_eq 16 8 rfl rfl rfl (by omega) (fun h4 => ?_) (fun h4 => ?_)
  · skip
    refine qr_iconst 17 rfl rfl ?_
    refine qr_retI rfl rfl (by decide) (by decide) ?_
    exact ⟨_, _, rfl, hI, hF0, (-1), rfl, by omega⟩
  · skip
    refine qr_aload_n 9 rfl rfl rfl ?_
    refine qr_iload_n 10 rfl rfl rfl ?_
    refine qr_callN 13 rfl rfl rfl (sf_180_86 (d := d + 1) hI (by omega)) ?_
    have hs7 : 0 ≤ σ 86 6 ∧ σ 86 6 ≤ 32 := hI.1 86 6
    rintro _ _ ⟨rfl, v5, rfl, hv5, hp6⟩
    show qr_W (qe L xs vb) (d + 3) qx_e186 _ (13, _, [.int (qz v5)], qw σ α κ ρ, 0, 0)
    refine qr_if_ne 18 16 rfl rfl rfl (by omega) (fun h8 => ?_) (fun h8 => ?_)
    · skip
      refine qr_aload_n 19 rfl rfl rfl ?_
      refine qr_iload_n 20 rfl rfl rfl ?_
      refine qr_iload_n 21 rfl rfl rfl ?_
      refine qr_callN 24 rfl rfl rfl (sf_187_86 (d := d + 0) hI (by omega) (by omega)) ?_
      rintro _ _ ⟨σ12, α13, rfl, hI14, hG15, hw11, v9, rfl, hv9, hp10⟩
      have hF16 : qFr [(86, 15)] [96] σ α σ12 α13 := qFr_t hF0 hG15 (by decide) (by decide)
      show qr_W (qe L xs vb) (d + 3) qx_e186 _ (24, _, [.int (qz v9)], qw σ12 α13 κ ρ, 0, 0)
      refine qr_istore_n _ 25 rfl (by decide) rfl rfl ?_
      refine qr_iload_n 26 rfl rfl rfl ?_
      refine qr_bipush 28 rfl (by decide) rfl ?_
      refine qr_icmp_ne 36 31 rfl rfl rfl (by omega) (by omega) (fun h17 => ?_) (fun h17 => ?_)
      · skip
        refine qr_iload_n 37 rfl rfl rfl ?_
        refine qr_retI rfl rfl (by decide) (by decide) ?_
        exact ⟨_, _, rfl, hI14, hF16, v9, rfl, by omega⟩
      · skip
        refine qr_bipush 33 rfl (by decide) rfl ?_
        refine qr_goto 37 rfl rfl ?_
        refine qr_retI rfl rfl (by decide) (by decide) ?_
        exact ⟨_, _, rfl, hI14, hF16, (-2), rfl, by omega⟩
    · skip
      refine qr_iconst 17 rfl rfl ?_
      refine qr_retI rfl rfl (by decide) (by decide) ?_
      exact ⟨_, _, rfl, hI, hF0, (-1), rfl, by omega⟩

