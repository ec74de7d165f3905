set_option maxHeartbeats 4000000 in
set_option maxRecDepth 20000 in
/-- OneRoofModel.either -/
theorem sf_213_86o3 {L : Nat} {xs : Nat → Int} {vb : Bool} {d : Nat} {σ α : Nat → Nat → Int} {κ : Nat → Option Nat} {ρ : Nat}  (hI : qI σ α κ ρ) (p0 : 3 ≤ σ 86 39) (p1 : σ 86 36 ≤ σ 86 37) : qm_T (qe L xs vb) (d + 25) 213 [.ref 86] (qw σ α κ ρ) (fun r w' => ∃ σ', w' = qw σ' α κ ρ ∧ qI σ' α κ ρ ∧ qFr [(86, 36), (86, 38), (86, 39)] [] σ α σ' α ∧ ∃ v : Int, r = some (.int (qz v)) ∧ ((-2147483648) ≤ v ∧ v ≤ 2147483647) ∧ σ 86 39 ≤ σ' 86 39 ∧ σ 86 36 ≤ σ' 86 36 ∧ σ' 86 36 ≤ σ' 86 37 ∧ σ' 86 37 = σ 86 37) := by
  refine qr_start (d := d + 24) qv_e213 (Nat.le_of_ble_eq_true rfl) ?_
  show qr_W (qe L xs vb) (d + 24) qx_e213 _ (0, [(0, .ref 86)], [], _, 0, 0)
  have hF0 := qFr_rf [(86, 36), (86, 38), (86, 39)] [] σ α
  have hz86_39 : 0 ≤ σ 86 39 ∧ σ 86 39 ≤ 6 := hI.1 86 39
  have hz86_36 : 0 ≤ σ 86 36 ∧ σ 86 36 ≤ 120 := hI.1 86 36
  have hz86_37 : 0 ≤ σ 86 37 ∧ σ 86 37 ≤ 120 := hI.1 86 37
  refine qr_aload_n 1 rfl rfl rfl ?_
  refine qr_callN 4 rfl rfl rfl (sf_214_86o3 (d := d + 0) hI (by omega) (by omega)) ?_
  have hs3 : 0 ≤ σ 86 36 ∧ σ 86 36 ≤ 120 := hI.1 86 36
  have hs4 : 0 ≤ σ 86 37 ∧ σ 86 37 ≤ 120 := hI.1 86 37
  have hs5 : 0 ≤ σ 86 39 ∧ σ 86 39 ≤ 6 := hI.1 86 39
  rintro _ _ ⟨σ6, rfl, hI7, hG8, v1, rfl, hv1, hp2⟩
  have hF9 : qFr [(86, 36), (86, 38), (86, 39)] [] σ α σ6 α := qFr_t hF0 hG8 (by decide) (by decide)
  have hs10 : 0 ≤ σ6 86 36 ∧ σ6 86 36 ≤ 120 := hI7.1 86 36
  have hs11 : 0 ≤ σ6 86 37 ∧ σ6 86 37 ≤ 120 := hI7.1 86 37
  have hs12 : 0 ≤ σ6 86 39 ∧ σ6 86 39 ≤ 6 := hI7.1 86 39
  show qr_W (qe L xs vb) (d + 24) qx_e213 _ (4, _, [.int (qz v1)], qw σ6 α κ ρ, 0, 0)
  refine qr_istore_n _ 5 rfl (by decide) rfl rfl ?_
  have hL139 : ∀ (n : Nat) (ls : qm_L) (u127 : Int) (σ128 : Nat → Nat → Int), ((120 - σ128 86 36).toNat : Int) < (n : Int) → qm_get ls 0 = some (.ref 86) → qm_get ls 1 = some (.int (qz u127)) → ((-2147483648) ≤ u127 ∧ u127 ≤ 2147483647) → qI σ128 α κ ρ → qFr [(86, 36), (86, 38), (86, 39)] [] σ α σ128 α → σ128 86 37 = (σ 86 37) → 3 ≤ σ128 86 39 → σ 86 39 ≤ σ128 86 39 → σ 86 36 ≤ σ128 86 36 → σ128 86 36 ≤ σ128 86 37 → σ128 86 37 = σ 86 37 → qr_W (qe L xs vb) (d + 24) qx_e213 (fun r w' => ∃ σ', w' = qw σ' α κ ρ ∧ qI σ' α κ ρ ∧ qFr [(86, 36), (86, 38), (86, 39)] [] σ α σ' α ∧ ∃ v : Int, r = some (.int (qz v)) ∧ ((-2147483648) ≤ v ∧ v ≤ 2147483647) ∧ σ 86 39 ≤ σ' 86 39 ∧ σ 86 36 ≤ σ' 86 36 ∧ σ' 86 36 ≤ σ' 86 37 ∧ σ' 86 37 = σ 86 37) (5, ls, [], qw σ128 α κ ρ, 0, 0) := by
    intro n
    induction n with
    | zero => intro ls u127 σ128 hm g125 g126 hf133 hI130 hF131 hk132 hx134 hx135 hx136 hx137 hx138; exact False.elim (by omega)
    | succ n ih140 =>
      intro ls u127 σ128 hm g125 g126 hf133 hI130 hF131 hk132 hx134 hx135 hx136 hx137 hx138
      have hs141 : 0 ≤ σ128 86 39 ∧ σ128 86 39 ≤ 6 := hI130.1 86 39
      have hs142 : 0 ≤ σ128 86 36 ∧ σ128 86 36 ≤ 120 := hI130.1 86 36
      have hs143 : 0 ≤ σ128 86 37 ∧ σ128 86 37 ≤ 120 := hI130.1 86 37
      refine qr_aload_n 6 rfl g125 rfl ?_
      refine qr_bipush 8 rfl (by decide) rfl ?_
      refine qr_callN 11 rfl rfl rfl (sf_221_86t (d := d + 22) hI130 (by omega) (by omega)) ?_
      have hs146 : 0 ≤ σ128 86 36 ∧ σ128 86 36 ≤ 120 := hI130.1 86 36
      have hs147 : 0 ≤ σ128 86 37 ∧ σ128 86 37 ≤ 120 := hI130.1 86 37
      rintro _ _ ⟨σ148, rfl, hI149, hG150, v144, rfl, hv144, hp145⟩
      have hF151 : qFr [(86, 36), (86, 38), (86, 39)] [] σ α σ148 α := qFr_t hF131 hG150 (by decide) (by decide)
      have hs152 : 0 ≤ σ148 86 36 ∧ σ148 86 36 ≤ 120 := hI149.1 86 36
      show qr_W (qe L xs vb) (d + 24) qx_e213 _ (11, _, [.int (qz v144)], qw σ148 α κ ρ, 0, 0)
      refine qr_if_eq 36 14 rfl rfl rfl (by omega) (fun h153 => ?_) (fun h153 => ?_)
      · skip
        refine qr_iload_n 37 rfl g126 rfl ?_
        refine qr_retI rfl rfl (by decide) (by decide) ?_
        have hw154 : σ148 86 36 = (σ148 86 36) := rfl
        have hw155 : σ148 86 37 = (σ128 86 37) := (hG150.1 86 37 (by decide)).trans rfl
        have hw156 : σ148 86 39 = (σ128 86 39) := (hG150.1 86 39 (by decide)).trans rfl
        exact ⟨_, rfl, hI149, hF151, u127, rfl, by omega, by omega⟩
      · skip
        refine qr_aload_n 15 rfl g125 rfl ?_
        refine qr_callN 18 rfl rfl rfl (sf_214_86o3 (d := d + 0) hI149 (by omega) (by omega)) ?_
        have hs159 : 0 ≤ σ148 86 36 ∧ σ148 86 36 ≤ 120 := hI149.1 86 36
        have hs160 : 0 ≤ σ148 86 37 ∧ σ148 86 37 ≤ 120 := hI149.1 86 37
        have hs161 : σ148 86 37 = (σ128 86 37) := (hG150.1 86 37 (by decide)).trans rfl
        have hs162 : 0 ≤ σ148 86 39 ∧ σ148 86 39 ≤ 6 := hI149.1 86 39
        have hs163 : σ148 86 39 = (σ128 86 39) := (hG150.1 86 39 (by decide)).trans rfl
        rintro _ _ ⟨σ164, rfl, hI165, hG166, v157, rfl, hv157, hp158⟩
        have hF167 : qFr [(86, 36), (86, 38), (86, 39)] [] σ α σ164 α := qFr_t hF151 hG166 (by decide) (by decide)
        have hs168 : 0 ≤ σ164 86 36 ∧ σ164 86 36 ≤ 120 := hI165.1 86 36
        have hs169 : 0 ≤ σ164 86 37 ∧ σ164 86 37 ≤ 120 := hI165.1 86 37
        have hs170 : 0 ≤ σ164 86 39 ∧ σ164 86 39 ≤ 6 := hI165.1 86 39
        show qr_W (qe L xs vb) (d + 24) qx_e213 _ (18, _, [.int (qz v157)], qw σ164 α κ ρ, 0, 0)
        refine qr_istore_n _ 19 rfl (by decide) rfl rfl ?_
        refine qr_iload_n 20 rfl (qm_gk g126 (by decide) (Or.inr rfl)) rfl ?_
        refine qr_if_ne 27 23 rfl rfl rfl (by omega) (fun h171 => ?_) (fun h171 => ?_)
        · skip
          refine qr_iconst 28 rfl rfl ?_
          refine qr_goto 32 rfl rfl ?_
          refine qr_istore_n _ 33 rfl (by decide) rfl rfl ?_
          refine qr_goto 5 rfl rfl ?_
          exact ih140 _ 1 σ164 (by omega) (qm_gk (qm_gk g125 (by decide) (Or.inl (by decide))) (by decide) (Or.inr rfl)) (qm_ge _ _ _) (by omega) hI165 hF167 ((hG166.1 86 37 (by decide)).trans ((hG150.1 86 37 (by decide)).trans rfl)) (by have hw0 : σ164 86 39 = (σ164 86 39) := rfl; have hw1 : σ164 86 36 = (σ164 86 36) := rfl; have hw2 : σ164 86 37 = (σ128 86 37) := (hG166.1 86 37 (by decide)).trans ((hG150.1 86 37 (by decide)).trans rfl); omega) (by have hw0 : σ164 86 39 = (σ164 86 39) := rfl; have hw1 : σ164 86 36 = (σ164 86 36) := rfl; have hw2 : σ164 86 37 = (σ128 86 37) := (hG166.1 86 37 (by decide)).trans ((hG150.1 86 37 (by decide)).trans rfl); omega) (by have hw0 : σ164 86 39 = (σ164 86 39) := rfl; have hw1 : σ164 86 36 = (σ164 86 36) := rfl; have hw2 : σ164 86 37 = (σ128 86 37) := (hG166.1 86 37 (by decide)).trans ((hG150.1 86 37 (by decide)).trans rfl); omega) (by have hw0 : σ164 86 39 = (σ164 86 39) := rfl; have hw1 : σ164 86 36 = (σ164 86 36) := rfl; have hw2 : σ164 86 37 = (σ128 86 37) := (hG166.1 86 37 (by decide)).trans ((hG150.1 86 37 (by decide)).trans rfl); omega) (by have hw0 : σ164 86 39 = (σ164 86 39) := rfl; have hw1 : σ164 86 36 = (σ164 86 36) := rfl; have hw2 : σ164 86 37 = (σ128 86 37) := (hG166.1 86 37 (by decide)).trans ((hG150.1 86 37 (by decide)).trans rfl); omega)
        · skip
          refine qr_iload_n 24 rfl (qm_ge _ _ _) rfl ?_
          refine qr_if_eq 31 27 rfl rfl rfl (by omega) (fun h172 => ?_) (fun h172 => ?_)
          · skip
            refine qr_iconst 32 rfl rfl ?_
            refine qr_istore_n _ 33 rfl (by decide) rfl rfl ?_
            refine qr_goto 5 rfl rfl ?_
            exact ih140 _ 0 σ164 (by omega) (qm_gk (qm_gk g125 (by decide) (Or.inl (by decide))) (by decide) (Or.inr rfl)) (qm_ge _ _ _) (by omega) hI165 hF167 ((hG166.1 86 37 (by decide)).trans ((hG150.1 86 37 (by decide)).trans rfl)) (by have hw0 : σ164 86 39 = (σ164 86 39) := rfl; have hw1 : σ164 86 36 = (σ164 86 36) := rfl; have hw2 : σ164 86 37 = (σ128 86 37) := (hG166.1 86 37 (by decide)).trans ((hG150.1 86 37 (by decide)).trans rfl); omega) (by have hw0 : σ164 86 39 = (σ164 86 39) := rfl; have hw1 : σ164 86 36 = (σ164 86 36) := rfl; have hw2 : σ164 86 37 = (σ128 86 37) := (hG166.1 86 37 (by decide)).trans ((hG150.1 86 37 (by decide)).trans rfl); omega) (by have hw0 : σ164 86 39 = (σ164 86 39) := rfl; have hw1 : σ164 86 36 = (σ164 86 36) := rfl; have hw2 : σ164 86 37 = (σ128 86 37) := (hG166.1 86 37 (by decide)).trans ((hG150.1 86 37 (by decide)).trans rfl); omega) (by have hw0 : σ164 86 39 = (σ164 86 39) := rfl; have hw1 : σ164 86 36 = (σ164 86 36) := rfl; have hw2 : σ164 86 37 = (σ128 86 37) := (hG166.1 86 37 (by decide)).trans ((hG150.1 86 37 (by decide)).trans rfl); omega) (by have hw0 : σ164 86 39 = (σ164 86 39) := rfl; have hw1 : σ164 86 36 = (σ164 86 36) := rfl; have hw2 : σ164 86 37 = (σ128 86 37) := (hG166.1 86 37 (by decide)).trans ((hG150.1 86 37 (by decide)).trans rfl); omega)
          · skip
            refine qr_iconst 28 rfl rfl ?_
            refine qr_goto 32 rfl rfl ?_
            refine qr_istore_n _ 33 rfl (by decide) rfl rfl ?_
            refine qr_goto 5 rfl rfl ?_
            exact ih140 _ 1 σ164 (by omega) (qm_gk (qm_gk g125 (by decide) (Or.inl (by decide))) (by decide) (Or.inr rfl)) (qm_ge _ _ _) (by omega) hI165 hF167 ((hG166.1 86 37 (by decide)).trans ((hG150.1 86 37 (by decide)).trans rfl)) (by have hw0 : σ164 86 39 = (σ164 86 39) := rfl; have hw1 : σ164 86 36 = (σ164 86 36) := rfl; have hw2 : σ164 86 37 = (σ128 86 37) := (hG166.1 86 37 (by decide)).trans ((hG150.1 86 37 (by decide)).trans rfl); omega) (by have hw0 : σ164 86 39 = (σ164 86 39) := rfl; have hw1 : σ164 86 36 = (σ164 86 36) := rfl; have hw2 : σ164 86 37 = (σ128 86 37) := (hG166.1 86 37 (by decide)).trans ((hG150.1 86 37 (by decide)).trans rfl); omega) (by have hw0 : σ164 86 39 = (σ164 86 39) := rfl; have hw1 : σ164 86 36 = (σ164 86 36) := rfl; have hw2 : σ164 86 37 = (σ128 86 37) := (hG166.1 86 37 (by decide)).trans ((hG150.1 86 37 (by decide)).trans rfl); omega) (by have hw0 : σ164 86 39 = (σ164 86 39) := rfl; have hw1 : σ164 86 36 = (σ164 86 36) := rfl; have hw2 : σ164 86 37 = (σ128 86 37) := (hG166.1 86 37 (by decide)).trans ((hG150.1 86 37 (by decide)).trans rfl); omega) (by have hw0 : σ164 86 39 = (σ164 86 39) := rfl; have hw1 : σ164 86 36 = (σ164 86 36) := rfl; have hw2 : σ164 86 37 = (σ128 86 37) := (hG166.1 86 37 (by decide)).trans ((hG150.1 86 37 (by decide)).trans rfl); omega)
  exact hL139 ((((120 - σ6 86 36).toNat : Int) + 1 : Int)).toNat _ v1 σ6 (by omega) rfl rfl (by omega) hI7 hF9 ((hG8.1 86 37 (by decide)).trans rfl) (by have hw0 : σ6 86 39 = (σ6 86 39) := rfl; have hw1 : σ6 86 36 = (σ6 86 36) := rfl; have hw2 : σ6 86 37 = (σ 86 37) := (hG8.1 86 37 (by decide)).trans rfl; omega) (by have hw0 : σ6 86 39 = (σ6 86 39) := rfl; have hw1 : σ6 86 36 = (σ6 86 36) := rfl; have hw2 : σ6 86 37 = (σ 86 37) := (hG8.1 86 37 (by decide)).trans rfl; omega) (by have hw0 : σ6 86 39 = (σ6 86 39) := rfl; have hw1 : σ6 86 36 = (σ6 86 36) := rfl; have hw2 : σ6 86 37 = (σ 86 37) := (hG8.1 86 37 (by decide)).trans rfl; omega) (by have hw0 : σ6 86 39 = (σ6 86 39) := rfl; have hw1 : σ6 86 36 = (σ6 86 36) := rfl; have hw2 : σ6 86 37 = (σ 86 37) := (hG8.1 86 37 (by decide)).trans rfl; omega) (by have hw0 : σ6 86 39 = (σ6 86 39) := rfl; have hw1 : σ6 86 36 = (σ6 86 36) := rfl; have hw2 : σ6 86 37 = (σ 86 37) := (hG8.1 86 37 (by decide)).trans rfl; omega)

set_option maxHeartbeats 4000000 in
set_option maxRecDepth 20000 in
/-- OneRoofModel.one -/
theorem sf_218_86o2 {L : Nat} {xs : Nat → Int} {vb : Bool} {d : Nat} {σ α : Nat → Nat → Int} {κ : Nat → Option Nat} {ρ : Nat}  (hI : qI σ α κ ρ) (p0 : 2 ≤ σ 86 39) (p1 : σ 86 36 ≤ σ 86 37) : qm_T (qe L xs vb) (d + 26) 218 [.ref 86] (qw σ α κ ρ) (fun r w' => ∃ σ', w' = qw σ' α κ ρ ∧ qI σ' α κ ρ ∧ qFr [(86, 36), (86, 38), (86, 39)] [] σ α σ' α ∧ ∃ v : Int, r = some (.int (qz v)) ∧ ((-2147483648) ≤ v ∧ v ≤ 2147483647) ∧ σ 86 39 ≤ σ' 86 39 ∧ σ 86 36 ≤ σ' 86 36 ∧ σ' 86 36 ≤ σ' 86 37 ∧ σ' 86 37 = σ 86 37) := by
  refine qr_start (d := d + 25) qv_e218 (Nat.le_of_ble_eq_true rfl) ?_
  show qr_W (qe L xs vb) (d + 25) qx_e218 _ (0, [(0, .ref 86)], [], _, 0, 0)
  have hF0 := qFr_rf [(86, 36), (86, 38), (86, 39)] [] σ α
  have hz86_39 : 0 ≤ σ 86 39 ∧ σ 86 39 ≤ 6 := hI.1 86 39
  have hz86_36 : 0 ≤ σ 86 36 ∧ σ 86 36 ≤ 120 := hI.1 86 36
  have hz86_37 : 0 ≤ σ 86 37 ∧ σ 86 37 ≤ 120 := hI.1 86 37
  refine qr_aload_n 1 rfl rfl rfl ?_
  refine qr_get 4 rfl rfl rfl (by decide) rfl ?_
  have hs1 : (-1) ≤ σ 86 38 ∧ σ 86 38 ≤ 120 := hI.1 86 38
  refine qr_if_lt 9 7 rfl rfl rfl (by omega) (fun h2 => ?_) (fun h2 => ?_)
  · skip
    refine qr_aload_n 10 rfl rfl rfl ?_
    refine qr_callN 13 rfl rfl rfl (sf_219_86t (d := d + 24) hI ) ?_
    have hs5 : 0 ≤ σ 86 36 ∧ σ 86 36 ≤ 120 := hI.1 86 36
    have hs6 : 0 ≤ σ 86 37 ∧ σ 86 37 ≤ 120 := hI.1 86 37
    rintro _ _ ⟨rfl, v3, rfl, hv3, hp4⟩
    show qr_W (qe L xs vb) (d + 25) qx_e218 _ (13, _, [.int (qz v3)], qw σ α κ ρ, 0, 0)
    refine qr_istore_n _ 14 rfl (by decide) rfl rfl ?_
    refine qr_iload_n 15 rfl rfl rfl ?_
    refine qr_bipush 17 rfl (by decide) rfl ?_
    refine qr_icmp_eq 32 20 rfl rfl rfl (by omega) (by omega) (fun h7 => ?_) (fun h7 => ?_)
    · skip
      refine qr_aload_n 33 rfl rfl rfl ?_
      refine qr_get 36 rfl rfl rfl (by decide) rfl ?_
      refine qr_bipush 38 rfl (by decide) rfl ?_
      refine qr_icmp_ne 46 41 rfl rfl rfl (by omega) (by omega) (fun h8 => ?_) (fun h8 => ?_)
      · skip
        refine qr_aload_n 47 rfl rfl rfl ?_
        refine qr_dup 48 rfl rfl rfl ?_
        refine qr_get 51 rfl rfl rfl (by decide) rfl ?_
        refine qr_iconst 52 rfl rfl ?_
        refine qr_iadd 53 rfl rfl ?_
        refine qr_put 56 rfl (by decide) rfl (Nat.le_of_ble_eq_true rfl) (Nat.le_of_ble_eq_true rfl) (Or.inl rfl) (qr_fitI rfl _) rfl ?_
        refine qy_wS (qw_s σ 86 39 ((σ 86 39) + 1)) rfl (fun σ9 e10 => ?_)
        have hI11 : qI σ9 α κ ρ := by rw [e10]; exact qI_s hI 86 39 rfl (show 0 ≤ ((σ 86 39) + 1) ∧ ((σ 86 39) + 1) ≤ 6 by omega)
        have hF12 : qFr [(86, 36), (86, 38), (86, 39)] [] σ α σ9 α := by rw [e10]; exact qFr_s hF0 86 39 _ (by decide)
        refine qr_aload_n 57 rfl rfl rfl ?_
        refine qr_dup 58 rfl rfl rfl ?_
        refine qr_get 61 rfl rfl rfl (by decide) rfl ?_
        refine qy_v (σ 86 36) ((congrFun (congrFun e10 86) 36).trans rfl) ?_
        refine qr_iconst 62 rfl rfl ?_
        refine qr_iadd 63 rfl rfl ?_
        refine qr_put 66 rfl (by decide) rfl (Nat.le_of_ble_eq_true rfl) (Nat.le_of_ble_eq_true rfl) (Or.inl rfl) (qr_fitI rfl _) rfl ?_
        refine qy_wS (qw_s σ9 86 36 ((σ 86 36) + 1)) rfl (fun σ13 e14 => ?_)
        have hI15 : qI σ13 α κ ρ := by rw [e14]; exact qI_s hI11 86 36 rfl (show 0 ≤ ((σ 86 36) + 1) ∧ ((σ 86 36) + 1) ≤ 120 by omega)
        have hF16 : qFr [(86, 36), (86, 38), (86, 39)] [] σ α σ13 α := by rw [e14]; exact qFr_s hF12 86 36 _ (by decide)
        refine qr_iload_n 67 rfl rfl rfl ?_
        refine qr_bipush 69 rfl (by decide) rfl ?_
        refine qr_icmp_ne 79 72 rfl rfl rfl (by omega) (by omega) (fun h17 => ?_) (fun h => False.elim (by omega))
        refine qr_aload_n 80 rfl rfl rfl ?_
        refine qr_callN 83 rfl rfl rfl (sf_218_86o3 (d := d + 5) hI15 (by omega) (by omega)) ?_
        have hs20 : 0 ≤ σ13 86 36 ∧ σ13 86 36 ≤ 120 := hI15.1 86 36
        have hs21 : σ13 86 36 = ((σ 86 36) + 1) := (congrFun (congrFun e14 86) 36).trans rfl
        have hs22 : 0 ≤ σ13 86 37 ∧ σ13 86 37 ≤ 120 := hI15.1 86 37
        have hs23 : σ13 86 37 = (σ 86 37) := (congrFun (congrFun e14 86) 37).trans ((congrFun (congrFun e10 86) 37).trans rfl)
        have hs24 : 0 ≤ σ13 86 39 ∧ σ13 86 39 ≤ 6 := hI15.1 86 39
        have hs25 : σ13 86 39 = ((σ 86 39) + 1) := (congrFun (congrFun e14 86) 39).trans ((congrFun (congrFun e10 86) 39).trans rfl)
        rintro _ _ ⟨σ26, rfl, hI27, hG28, v18, rfl, hv18, hp19⟩
        have hF29 : qFr [(86, 36), (86, 38), (86, 39)] [] σ α σ26 α := qFr_t hF16 hG28 (by decide) (by decide)
        have hs30 : 0 ≤ σ26 86 36 ∧ σ26 86 36 ≤ 120 := hI27.1 86 36
        have hs31 : 0 ≤ σ26 86 37 ∧ σ26 86 37 ≤ 120 := hI27.1 86 37
        have hs32 : 0 ≤ σ26 86 39 ∧ σ26 86 39 ≤ 6 := hI27.1 86 39
        show qr_W (qe L xs vb) (d + 25) qx_e218 _ (83, _, [.int (qz v18)], qw σ26 α κ ρ, 0, 0)
        refine qr_istore_n _ 84 rfl (by decide) rfl rfl ?_
        refine qr_iload_n 85 rfl rfl rfl ?_
        refine qr_bipush 87 rfl (by decide) rfl ?_
        refine qr_icmp_ne 104 90 rfl rfl rfl (by omega) (by omega) (fun h33 => ?_) (fun h => False.elim (by omega))
        refine qr_aload_n 105 rfl rfl rfl ?_
        refine qr_dup 106 rfl rfl rfl ?_
        refine qr_get 109 rfl rfl rfl (by decide) rfl ?_
        refine qr_iconst 110 rfl rfl ?_
        refine qr_isub 111 rfl rfl ?_
        refine qr_put 114 rfl (by decide) rfl (Nat.le_of_ble_eq_true rfl) (Nat.le_of_ble_eq_true rfl) (Or.inl rfl) (qr_fitI rfl _) rfl ?_
        refine qy_wS (qw_s σ26 86 39 ((σ26 86 39) - 1)) rfl (fun σ34 e35 => ?_)
        have hI36 : qI σ34 α κ ρ := by rw [e35]; exact qI_s hI27 86 39 rfl (show 0 ≤ ((σ26 86 39) - 1) ∧ ((σ26 86 39) - 1) ≤ 6 by omega)
        have hF37 : qFr [(86, 36), (86, 38), (86, 39)] [] σ α σ34 α := by rw [e35]; exact qFr_s hF29 86 39 _ (by decide)
        refine qr_iload_n 115 rfl rfl rfl ?_
        refine qr_bipush 117 rfl (by decide) rfl ?_
        refine qr_icmp_ne 124 120 rfl rfl rfl (by omega) (by omega) (fun h38 => ?_) (fun h => False.elim (by omega))
        refine qr_iload_n 125 rfl rfl rfl ?_
        refine qr_bipush 127 rfl (by decide) rfl ?_
        refine qr_icmp_ne 135 130 rfl rfl rfl (by omega) (by omega) (fun h39 => ?_) (fun h => False.elim (by omega))
        refine qr_iload_n 136 rfl rfl rfl ?_
        refine qr_if_ne 143 139 rfl rfl rfl (by omega) (fun h40 => ?_) (fun h40 => ?_)
        · skip
          refine qr_iconst 144 rfl rfl ?_
          refine qr_retI rfl rfl (by decide) (by decide) ?_
          have hw41 : σ34 86 36 = (σ26 86 36) := (congrFun (congrFun e35 86) 36).trans rfl
          have hw42 : σ34 86 37 = (σ 86 37) := (congrFun (congrFun e35 86) 37).trans ((hG28.1 86 37 (by decide)).trans ((congrFun (congrFun e14 86) 37).trans ((congrFun (congrFun e10 86) 37).trans rfl)))
          have hw43 : σ34 86 39 = ((σ26 86 39) - 1) := (congrFun (congrFun e35 86) 39).trans rfl
          exact ⟨_, rfl, hI36, hF37, 0, rfl, by omega, by omega⟩
        · skip
          refine qr_iconst 140 rfl rfl ?_
          refine qr_goto 144 rfl rfl ?_
          as_aux_lemma =>
            refine qr_retI rfl rfl (by decide) (by decide) ?_
            have hw44 : σ34 86 36 = (σ26 86 36) := (congrFun (congrFun e35 86) 36).trans rfl
            have hw45 : σ34 86 37 = (σ 86 37) := (congrFun (congrFun e35 86) 37).trans ((hG28.1 86 37 (by decide)).trans ((congrFun (congrFun e14 86) 37).trans ((congrFun (congrFun e10 86) 37).trans rfl)))
            have hw46 : σ34 86 39 = ((σ26 86 39) - 1) := (congrFun (congrFun e35 86) 39).trans rfl
            exact ⟨_, rfl, hI36, hF37, 1, rfl, by omega, by omega⟩
      · skip
        refine qr_aload_n 42 rfl rfl rfl ?_
        refine qr_callN 45 rfl rfl rfl (sf_220_86 (d := d + 24) hI ) ?_
        rintro _ _ ⟨σ48, rfl, hI49, hG50, v47, rfl, hv47⟩
        have hF51 : qFr [(86, 36), (86, 38), (86, 39)] [] σ α σ48 α := qFr_t hF0 hG50 (by decide) (by decide)
        show qr_W (qe L xs vb) (d + 25) qx_e218 _ (45, _, [.int (qz v47)], qw σ48 α κ ρ, 0, 0)
        refine qr_retI rfl rfl (by decide) (by decide) ?_
        have hw52 : σ48 86 36 = (σ 86 36) := (hG50.1 86 36 (by decide)).trans rfl
        have hw53 : σ48 86 37 = (σ 86 37) := (hG50.1 86 37 (by decide)).trans rfl
        have hw54 : σ48 86 39 = (σ 86 39) := (hG50.1 86 39 (by decide)).trans rfl
        exact ⟨_, rfl, hI49, hF51, v47, rfl, by omega, by omega⟩
    · skip
      refine qr_iload_n 21 rfl rfl rfl ?_
      refine qr_bipush 23 rfl (by decide) rfl ?_
      refine qr_icmp_eq 32 26 rfl rfl rfl (by omega) (by omega) (fun h55 => ?_) (fun h55 => ?_)
      · skip
        refine qr_aload_n 33 rfl rfl rfl ?_
        refine qr_get 36 rfl rfl rfl (by decide) rfl ?_
        refine qr_bipush 38 rfl (by decide) rfl ?_
        refine qr_icmp_ne 46 41 rfl rfl rfl (by omega) (by omega) (fun h56 => ?_) (fun h56 => ?_)
        · skip
          refine qr_aload_n 47 rfl rfl rfl ?_
          refine qr_dup 48 rfl rfl rfl ?_
          refine qr_get 51 rfl rfl rfl (by decide) rfl ?_
          refine qr_iconst 52 rfl rfl ?_
          refine qr_iadd 53 rfl rfl ?_
          refine qr_put 56 rfl (by decide) rfl (Nat.le_of_ble_eq_true rfl) (Nat.le_of_ble_eq_true rfl) (Or.inl rfl) (qr_fitI rfl _) rfl ?_
          refine qy_wS (qw_s σ 86 39 ((σ 86 39) + 1)) rfl (fun σ57 e58 => ?_)
          have hI59 : qI σ57 α κ ρ := by rw [e58]; exact qI_s hI 86 39 rfl (show 0 ≤ ((σ 86 39) + 1) ∧ ((σ 86 39) + 1) ≤ 6 by omega)
          have hF60 : qFr [(86, 36), (86, 38), (86, 39)] [] σ α σ57 α := by rw [e58]; exact qFr_s hF0 86 39 _ (by decide)
          refine qr_aload_n 57 rfl rfl rfl ?_
          refine qr_dup 58 rfl rfl rfl ?_
          refine qr_get 61 rfl rfl rfl (by decide) rfl ?_
          refine qy_v (σ 86 36) ((congrFun (congrFun e58 86) 36).trans rfl) ?_
          refine qr_iconst 62 rfl rfl ?_
          refine qr_iadd 63 rfl rfl ?_
          refine qr_put 66 rfl (by decide) rfl (Nat.le_of_ble_eq_true rfl) (Nat.le_of_ble_eq_true rfl) (Or.inl rfl) (qr_fitI rfl _) rfl ?_
          refine qy_wS (qw_s σ57 86 36 ((σ 86 36) + 1)) rfl (fun σ61 e62 => ?_)
          have hI63 : qI σ61 α κ ρ := by rw [e62]; exact qI_s hI59 86 36 rfl (show 0 ≤ ((σ 86 36) + 1) ∧ ((σ 86 36) + 1) ≤ 120 by omega)
          have hF64 : qFr [(86, 36), (86, 38), (86, 39)] [] σ α σ61 α := by rw [e62]; exact qFr_s hF60 86 36 _ (by decide)
          refine qr_iload_n 67 rfl rfl rfl ?_
          refine qr_bipush 69 rfl (by decide) rfl ?_
          refine qr_icmp_ne 79 72 rfl rfl rfl (by omega) (by omega) (fun h65 => ?_) (fun h => False.elim (by omega))
          refine qr_aload_n 80 rfl rfl rfl ?_
          refine qr_callN 83 rfl rfl rfl (sf_218_86o3 (d := d + 5) hI63 (by omega) (by omega)) ?_
          have hs68 : 0 ≤ σ61 86 36 ∧ σ61 86 36 ≤ 120 := hI63.1 86 36
          have hs69 : σ61 86 36 = ((σ 86 36) + 1) := (congrFun (congrFun e62 86) 36).trans rfl
          have hs70 : 0 ≤ σ61 86 37 ∧ σ61 86 37 ≤ 120 := hI63.1 86 37
          have hs71 : σ61 86 37 = (σ 86 37) := (congrFun (congrFun e62 86) 37).trans ((congrFun (congrFun e58 86) 37).trans rfl)
          have hs72 : 0 ≤ σ61 86 39 ∧ σ61 86 39 ≤ 6 := hI63.1 86 39
          have hs73 : σ61 86 39 = ((σ 86 39) + 1) := (congrFun (congrFun e62 86) 39).trans ((congrFun (congrFun e58 86) 39).trans rfl)
          rintro _ _ ⟨σ74, rfl, hI75, hG76, v66, rfl, hv66, hp67⟩
          have hF77 : qFr [(86, 36), (86, 38), (86, 39)] [] σ α σ74 α := qFr_t hF64 hG76 (by decide) (by decide)
          have hs78 : 0 ≤ σ74 86 36 ∧ σ74 86 36 ≤ 120 := hI75.1 86 36
          have hs79 : 0 ≤ σ74 86 37 ∧ σ74 86 37 ≤ 120 := hI75.1 86 37
          have hs80 : 0 ≤ σ74 86 39 ∧ σ74 86 39 ≤ 6 := hI75.1 86 39
          show qr_W (qe L xs vb) (d + 25) qx_e218 _ (83, _, [.int (qz v66)], qw σ74 α κ ρ, 0, 0)
          refine qr_istore_n _ 84 rfl (by decide) rfl rfl ?_
          refine qr_iload_n 85 rfl rfl rfl ?_
          refine qr_bipush 87 rfl (by decide) rfl ?_
          refine qr_icmp_ne 104 90 rfl rfl rfl (by omega) (by omega) (fun h81 => ?_) (fun h => False.elim (by omega))
          refine qr_aload_n 105 rfl rfl rfl ?_
          refine qr_dup 106 rfl rfl rfl ?_
          refine qr_get 109 rfl rfl rfl (by decide) rfl ?_
          refine qr_iconst 110 rfl rfl ?_
          refine qr_isub 111 rfl rfl ?_
          refine qr_put 114 rfl (by decide) rfl (Nat.le_of_ble_eq_true rfl) (Nat.le_of_ble_eq_true rfl) (Or.inl rfl) (qr_fitI rfl _) rfl ?_
          refine qy_wS (qw_s σ74 86 39 ((σ74 86 39) - 1)) rfl (fun σ82 e83 => ?_)
          have hI84 : qI σ82 α κ ρ := by rw [e83]; exact qI_s hI75 86 39 rfl (show 0 ≤ ((σ74 86 39) - 1) ∧ ((σ74 86 39) - 1) ≤ 6 by omega)
          have hF85 : qFr [(86, 36), (86, 38), (86, 39)] [] σ α σ82 α := by rw [e83]; exact qFr_s hF77 86 39 _ (by decide)
          refine qr_iload_n 115 rfl rfl rfl ?_
          refine qr_bipush 117 rfl (by decide) rfl ?_
          refine qr_icmp_ne 124 120 rfl rfl rfl (by omega) (by omega) (fun h86 => ?_) (fun h => False.elim (by omega))
          refine qr_iload_n 125 rfl rfl rfl ?_
          refine qr_bipush 127 rfl (by decide) rfl ?_
          refine qr_icmp_ne 135 130 rfl rfl rfl (by omega) (by omega) (fun h => False.elim (by omega)) (fun h87 => ?_)
          refine qr_iload_n 131 rfl rfl rfl ?_
          as_aux_lemma =>
            refine qr_ineg 132 rfl rfl ?_
            refine qy_can (fun v88 hv88 => ?_)
            refine qr_goto 144 rfl rfl ?_
            refine qr_retI rfl rfl (by decide) (by decide) ?_
            have hw89 : σ82 86 36 = (σ74 86 36) := (congrFun (congrFun e83 86) 36).trans rfl
            have hw90 : σ82 86 37 = (σ 86 37) := (congrFun (congrFun e83 86) 37).trans ((hG76.1 86 37 (by decide)).trans ((congrFun (congrFun e62 86) 37).trans ((congrFun (congrFun e58 86) 37).trans rfl)))
            have hw91 : σ82 86 39 = ((σ74 86 39) - 1) := (congrFun (congrFun e83 86) 39).trans rfl
            exact ⟨_, rfl, hI84, hF85, v88, rfl, by omega, by omega⟩
        · skip
          refine qr_aload_n 42 rfl rfl rfl ?_
          refine qr_callN 45 rfl rfl rfl (sf_220_86 (d := d + 24) hI ) ?_
          rintro _ _ ⟨σ93, rfl, hI94, hG95, v92, rfl, hv92⟩
          have hF96 : qFr [(86, 36), (86, 38), (86, 39)] [] σ α σ93 α := qFr_t hF0 hG95 (by decide) (by decide)
          show qr_W (qe L xs vb) (d + 25) qx_e218 _ (45, _, [.int (qz v92)], qw σ93 α κ ρ, 0, 0)
          refine qr_retI rfl rfl (by decide) (by decide) ?_
          have hw97 : σ93 86 36 = (σ 86 36) := (hG95.1 86 36 (by decide)).trans rfl
          have hw98 : σ93 86 37 = (σ 86 37) := (hG95.1 86 37 (by decide)).trans rfl
          have hw99 : σ93 86 39 = (σ 86 39) := (hG95.1 86 39 (by decide)).trans rfl
          exact ⟨_, rfl, hI94, hF96, v92, rfl, by omega, by omega⟩
      · skip
        refine qr_iload_n 27 rfl rfl rfl ?_
        refine qr_bipush 29 rfl (by decide) rfl ?_
        refine qr_icmp_ne 145 32 rfl rfl rfl (by omega) (by omega) (fun h100 => ?_) (fun h100 => ?_)
        · skip
          refine qr_iload_n 146 rfl rfl rfl ?_
          refine qr_callN 149 rfl rfl rfl (sf_222 (d := d + 24) hI (by omega)) ?_
          rintro _ _ ⟨rfl, v101, rfl, hv101⟩
          show qr_W (qe L xs vb) (d + 25) qx_e218 _ (149, _, [.int (qz v101)], qw σ α κ ρ, 0, 0)
          refine qr_istore_n _ 150 rfl (by decide) rfl rfl ?_
          refine qr_iload_n 151 rfl rfl rfl ?_
          refine qr_if_lt 171 154 rfl rfl rfl (by omega) (fun h102 => ?_) (fun h102 => ?_)
          · skip
            refine qr_iconst 172 rfl rfl ?_
            refine qr_istore_n _ 173 rfl (by decide) rfl rfl ?_
            refine qr_iconst 174 rfl rfl ?_
            refine qr_istore _ 176 rfl (by decide) rfl rfl ?_
            have hL372 : ∀ (n : Nat) (ls : qm_L) (u355 u357 : Int) (σ358 : Nat → Nat → Int), 4 - u357 < (n : Int) → qm_get ls 0 = some (.ref 86) → qm_get ls 3 = some (.int (qz u355)) → qm_get ls 4 = some (.int (qz u357)) → ((-2147483648) ≤ u355 ∧ u355 ≤ 2147483647) → (0 ≤ u357 ∧ u357 ≤ 4) → qI σ358 α κ ρ → qFr [(86, 36), (86, 38), (86, 39)] [] σ α σ358 α → σ358 86 37 = (σ 86 37) → σ358 86 38 = (σ 86 38) → σ358 86 39 = (σ 86 39) → 2 ≤ σ358 86 39 → σ 86 39 ≤ σ358 86 39 → σ 86 36 ≤ σ358 86 36 → σ358 86 36 ≤ σ358 86 37 → σ358 86 37 = σ 86 37 → qr_W (qe L xs vb) (d + 25) qx_e218 (fun r w' => ∃ σ', w' = qw σ' α κ ρ ∧ qI σ' α κ ρ ∧ qFr [(86, 36), (86, 38), (86, 39)] [] σ α σ' α ∧ ∃ v : Int, r = some (.int (qz v)) ∧ ((-2147483648) ≤ v ∧ v ≤ 2147483647) ∧ σ 86 39 ≤ σ' 86 39 ∧ σ 86 36 ≤ σ' 86 36 ∧ σ' 86 36 ≤ σ' 86 37 ∧ σ' 86 37 = σ 86 37) (176, ls, [], qw σ358 α κ ρ, 0, 0) := by
              intro n
              induction n with
              | zero => intro ls u355 u357 σ358 hm g353 g354 g356 hf365 hf366 hI360 hF361 hk362 hk363 hk364 hx367 hx368 hx369 hx370 hx371; exact False.elim (by omega)
              | succ n ih373 =>
                intro ls u355 u357 σ358 hm g353 g354 g356 hf365 hf366 hI360 hF361 hk362 hk363 hk364 hx367 hx368 hx369 hx370 hx371
                have hs374 : 0 ≤ σ358 86 39 ∧ σ358 86 39 ≤ 6 := hI360.1 86 39
                have hs375 : 0 ≤ σ358 86 36 ∧ σ358 86 36 ≤ 120 := hI360.1 86 36
                have hs376 : 0 ≤ σ358 86 37 ∧ σ358 86 37 ≤ 120 := hI360.1 86 37
                refine qr_iload 178 rfl g356 rfl ?_
                refine qr_iconst 179 rfl rfl ?_
                refine qr_icmp_ge 229 182 rfl rfl rfl (by omega) (by omega) (fun h377 => ?_) (fun h377 => ?_)
                · skip
                  refine qr_iload 231 rfl g356 rfl ?_
                  refine qr_if_ne 241 234 rfl rfl rfl (by omega) (fun h378 => ?_) (fun h => False.elim (by omega))
                  refine qr_iload_n 242 rfl g354 rfl ?_
                  refine qr_retI rfl rfl (by decide) (by decide) ?_
                  have hw379 : σ358 86 36 = (σ358 86 36) := rfl
                  have hw380 : σ358 86 37 = (σ358 86 37) := rfl
                  have hw381 : σ358 86 39 = (σ358 86 39) := rfl
                  exact ⟨_, rfl, hI360, hF361, u355, rfl, by omega, by omega⟩
                · skip
                  refine qr_aload_n 183 rfl g353 rfl ?_
                  refine qr_callN 186 rfl rfl rfl (sf_219_86t (d := d + 24) hI360 ) ?_
                  have hs384 : 0 ≤ σ358 86 36 ∧ σ358 86 36 ≤ 120 := hI360.1 86 36
                  have hs385 : 0 ≤ σ358 86 37 ∧ σ358 86 37 ≤ 120 := hI360.1 86 37
                  rintro _ _ ⟨rfl, v382, rfl, hv382, hp383⟩
                  show qr_W (qe L xs vb) (d + 25) qx_e218 _ (186, _, [.int (qz v382)], qw σ358 α κ ρ, 0, 0)
                  refine qr_bipush 188 rfl (by decide) rfl ?_
                  refine qr_icmp_lt 229 191 rfl rfl rfl (by omega) (by omega) (fun h386 => ?_) (fun h386 => ?_)
                  · skip
                    refine qr_iload 231 rfl g356 rfl ?_
                    refine qr_if_ne 241 234 rfl rfl rfl (by omega) (fun h387 => ?_) (fun h387 => ?_)
                    · skip
                      refine qr_iload_n 242 rfl g354 rfl ?_
                      refine qr_retI rfl rfl (by decide) (by decide) ?_
                      have hw388 : σ358 86 36 = (σ358 86 36) := rfl
                      have hw389 : σ358 86 37 = (σ358 86 37) := rfl
                      have hw390 : σ358 86 39 = (σ358 86 39) := rfl
                      exact ⟨_, rfl, hI360, hF361, u355, rfl, by omega, by omega⟩
                    · skip
                      refine qr_aload_n 235 rfl g353 rfl ?_
                      refine qr_callN 238 rfl rfl rfl (sf_220_86 (d := d + 24) hI360 ) ?_
                      rintro _ _ ⟨σ392, rfl, hI393, hG394, v391, rfl, hv391⟩
                      have hF395 : qFr [(86, 36), (86, 38), (86, 39)] [] σ α σ392 α := qFr_t hF361 hG394 (by decide) (by decide)
                      show qr_W (qe L xs vb) (d + 25) qx_e218 _ (238, _, [.int (qz v391)], qw σ392 α κ ρ, 0, 0)
                      refine qr_goto 242 rfl rfl ?_
                      refine qr_retI rfl rfl (by decide) (by decide) ?_
                      have hw396 : σ392 86 36 = (σ358 86 36) := (hG394.1 86 36 (by decide)).trans rfl
                      have hw397 : σ392 86 37 = (σ358 86 37) := (hG394.1 86 37 (by decide)).trans rfl
                      have hw398 : σ392 86 39 = (σ358 86 39) := (hG394.1 86 39 (by decide)).trans rfl
                      exact ⟨_, rfl, hI393, hF395, v391, rfl, by omega, by omega⟩
                  · skip
                    refine qr_aload_n 192 rfl g353 rfl ?_
                    refine qr_callN 195 rfl rfl rfl (sf_219_86t (d := d + 24) hI360 ) ?_
                    have hs401 : 0 ≤ σ358 86 36 ∧ σ358 86 36 ≤ 120 := hI360.1 86 36
                    have hs402 : 0 ≤ σ358 86 37 ∧ σ358 86 37 ≤ 120 := hI360.1 86 37
                    rintro _ _ ⟨rfl, v399, rfl, hv399, hp400⟩
                    show qr_W (qe L xs vb) (d + 25) qx_e218 _ (195, _, [.int (qz v399)], qw σ358 α κ ρ, 0, 0)
                    refine qr_bipush 197 rfl (by decide) rfl ?_
                    refine qr_icmp_gt 229 200 rfl rfl rfl (by omega) (by omega) (fun h403 => ?_) (fun h403 => ?_)
                    · skip
                      refine qr_iload 231 rfl g356 rfl ?_
                      refine qr_if_ne 241 234 rfl rfl rfl (by omega) (fun h404 => ?_) (fun h404 => ?_)
                      · skip
                        refine qr_iload_n 242 rfl g354 rfl ?_
                        refine qr_retI rfl rfl (by decide) (by decide) ?_
                        have hw405 : σ358 86 36 = (σ358 86 36) := rfl
                        have hw406 : σ358 86 37 = (σ358 86 37) := rfl
                        have hw407 : σ358 86 39 = (σ358 86 39) := rfl
                        exact ⟨_, rfl, hI360, hF361, u355, rfl, by omega, by omega⟩
                      · skip
                        refine qr_aload_n 235 rfl g353 rfl ?_
                        refine qr_callN 238 rfl rfl rfl (sf_220_86 (d := d + 24) hI360 ) ?_
                        rintro _ _ ⟨σ409, rfl, hI410, hG411, v408, rfl, hv408⟩
                        have hF412 : qFr [(86, 36), (86, 38), (86, 39)] [] σ α σ409 α := qFr_t hF361 hG411 (by decide) (by decide)
                        show qr_W (qe L xs vb) (d + 25) qx_e218 _ (238, _, [.int (qz v408)], qw σ409 α κ ρ, 0, 0)
                        refine qr_goto 242 rfl rfl ?_
                        refine qr_retI rfl rfl (by decide) (by decide) ?_
                        have hw413 : σ409 86 36 = (σ358 86 36) := (hG411.1 86 36 (by decide)).trans rfl
                        have hw414 : σ409 86 37 = (σ358 86 37) := (hG411.1 86 37 (by decide)).trans rfl
                        have hw415 : σ409 86 39 = (σ358 86 39) := (hG411.1 86 39 (by decide)).trans rfl
                        exact ⟨_, rfl, hI410, hF412, v408, rfl, by omega, by omega⟩
                    · skip
                      refine qr_bipush 202 rfl (by decide) rfl ?_
                      refine qr_iload_n 203 rfl g354 rfl ?_
                      refine qr_imul 204 rfl rfl ?_
                      refine qy_can (fun v416 hv416 => ?_)
                      refine qr_aload_n 205 rfl g353 rfl ?_
                      refine qr_callN 208 rfl rfl rfl (sf_219_86t (d := d + 24) hI360 ) ?_
                      have hs419 : 0 ≤ σ358 86 36 ∧ σ358 86 36 ≤ 120 := hI360.1 86 36
                      have hs420 : 0 ≤ σ358 86 37 ∧ σ358 86 37 ≤ 120 := hI360.1 86 37
                      rintro _ _ ⟨rfl, v417, rfl, hv417, hp418⟩
                      show qr_W (qe L xs vb) (d + 25) qx_e218 _ (208, _, [.int (qz v417), .int (qz v416)], qw σ358 α κ ρ, 0, 0)
                      refine qr_iadd 209 rfl rfl ?_
                      refine qy_can (fun v421 hv421 => ?_)
                      refine qr_bipush 211 rfl (by decide) rfl ?_
                      refine qr_isub 212 rfl rfl ?_
                      refine qy_can (fun v422 hv422 => ?_)
                      refine qr_istore_n _ 213 rfl (by decide) rfl rfl ?_
                      refine qr_iinc _ 216 rfl (qm_gk g356 (by decide) (Or.inl (by decide))) (by decide) rfl rfl ?_
                      refine qr_aload_n 217 rfl (qm_gk (qm_gk g353 (by decide) (Or.inl (by decide))) (by decide) (Or.inl (by decide))) rfl ?_
                      refine qr_dup 218 rfl rfl rfl ?_
                      refine qr_get 221 rfl rfl rfl (by decide) rfl ?_
                      refine qr_iconst 222 rfl rfl ?_
                      refine qr_iadd 223 rfl rfl ?_
                      refine qr_put 226 rfl (by decide) rfl (Nat.le_of_ble_eq_true rfl) (Nat.le_of_ble_eq_true rfl) (Or.inl rfl) (qr_fitI rfl _) rfl ?_
                      refine qy_wS (qw_s σ358 86 36 ((σ358 86 36) + 1)) rfl (fun σ423 e424 => ?_)
                      have hI425 : qI σ423 α κ ρ := by rw [e424]; exact qI_s hI360 86 36 rfl (show 0 ≤ ((σ358 86 36) + 1) ∧ ((σ358 86 36) + 1) ≤ 120 by omega)
                      have hF426 : qFr [(86, 36), (86, 38), (86, 39)] [] σ α σ423 α := by rw [e424]; exact qFr_s hF361 86 36 _ (by decide)
                      refine qr_goto 176 rfl rfl ?_
                      exact ih373 _ v422 (u357 + 1) σ423 (by omega) (qm_gk (qm_gk g353 (by decide) (Or.inl (by decide))) (by decide) (Or.inl (by decide))) (qm_gk (qm_ge _ _ _) (by decide) (Or.inr rfl)) (qm_ge _ _ _) (by omega) (by omega) hI425 hF426 ((congrFun (congrFun e424 86) 37).trans rfl) ((congrFun (congrFun e424 86) 38).trans ((hk363).trans rfl)) ((congrFun (congrFun e424 86) 39).trans rfl) (by have hw0 : σ423 86 39 = (σ358 86 39) := (congrFun (congrFun e424 86) 39).trans rfl; have hw1 : σ423 86 36 = ((σ358 86 36) + 1) := (congrFun (congrFun e424 86) 36).trans rfl; have hw2 : σ423 86 37 = (σ358 86 37) := (congrFun (congrFun e424 86) 37).trans rfl; omega) (by have hw0 : σ423 86 39 = (σ358 86 39) := (congrFun (congrFun e424 86) 39).trans rfl; have hw1 : σ423 86 36 = ((σ358 86 36) + 1) := (congrFun (congrFun e424 86) 36).trans rfl; have hw2 : σ423 86 37 = (σ358 86 37) := (congrFun (congrFun e424 86) 37).trans rfl; omega) (by have hw0 : σ423 86 39 = (σ358 86 39) := (congrFun (congrFun e424 86) 39).trans rfl; have hw1 : σ423 86 36 = ((σ358 86 36) + 1) := (congrFun (congrFun e424 86) 36).trans rfl; have hw2 : σ423 86 37 = (σ358 86 37) := (congrFun (congrFun e424 86) 37).trans rfl; omega) (by have hw0 : σ423 86 39 = (σ358 86 39) := (congrFun (congrFun e424 86) 39).trans rfl; have hw1 : σ423 86 36 = ((σ358 86 36) + 1) := (congrFun (congrFun e424 86) 36).trans rfl; have hw2 : σ423 86 37 = (σ358 86 37) := (congrFun (congrFun e424 86) 37).trans rfl; omega) (by have hw0 : σ423 86 39 = (σ358 86 39) := (congrFun (congrFun e424 86) 39).trans rfl; have hw1 : σ423 86 36 = ((σ358 86 36) + 1) := (congrFun (congrFun e424 86) 36).trans rfl; have hw2 : σ423 86 37 = (σ358 86 37) := (congrFun (congrFun e424 86) 37).trans rfl; omega)
            exact hL372 ((4 - 0 + 1 : Int)).toNat _ 0 0 σ (by omega) rfl rfl rfl (by omega) (by omega) hI hF0 (rfl) (rfl) (rfl) (by have hw0 : σ 86 39 = (σ 86 39) := rfl; have hw1 : σ 86 36 = (σ 86 36) := rfl; have hw2 : σ 86 37 = (σ 86 37) := rfl; omega) (by have hw0 : σ 86 39 = (σ 86 39) := rfl; have hw1 : σ 86 36 = (σ 86 36) := rfl; have hw2 : σ 86 37 = (σ 86 37) := rfl; omega) (by have hw0 : σ 86 39 = (σ 86 39) := rfl; have hw1 : σ 86 36 = (σ 86 36) := rfl; have hw2 : σ 86 37 = (σ 86 37) := rfl; omega) (by have hw0 : σ 86 39 = (σ 86 39) := rfl; have hw1 : σ 86 36 = (σ 86 36) := rfl; have hw2 : σ 86 37 = (σ 86 37) := rfl; omega) (by have hw0 : σ 86 39 = (σ 86 39) := rfl; have hw1 : σ 86 36 = (σ 86 36) := rfl; have hw2 : σ 86 37 = (σ 86 37) := rfl; omega)
          · skip
            refine qr_aload_n 155 rfl rfl rfl ?_
            refine qr_dup 156 rfl rfl rfl ?_
            refine qr_get 159 rfl rfl rfl (by decide) rfl ?_
            refine qr_iconst 160 rfl rfl ?_
            refine qr_iadd 161 rfl rfl ?_
            refine qr_put 164 rfl (by decide) rfl (Nat.le_of_ble_eq_true rfl) (Nat.le_of_ble_eq_true rfl) (Or.inl rfl) (qr_fitI rfl _) rfl ?_
            refine qy_wS (qw_s σ 86 36 ((σ 86 36) + 1)) rfl (fun σ427 e428 => ?_)
            have hI429 : qI σ427 α κ ρ := by rw [e428]; exact qI_s hI 86 36 rfl (show 0 ≤ ((σ 86 36) + 1) ∧ ((σ 86 36) + 1) ≤ 120 by omega)
            have hF430 : qFr [(86, 36), (86, 38), (86, 39)] [] σ α σ427 α := by rw [e428]; exact qFr_s hF0 86 36 _ (by decide)
            refine qr_aload_n 165 rfl rfl rfl ?_
            refine qr_get 168 rfl rfl rfl (by decide) rfl ?_
            refine qr_iload_n 169 rfl rfl rfl ?_
            refine qr_iaload 170 rfl rfl (by omega) (by decide) rfl ?_
            refine qr_topI (fun v431 hv431 => ?_)
            have hs432 : (-2147483648) ≤ v431 ∧ v431 ≤ 2147483647 := by rw [hv431]; exact hI429.2.1 109 _ (show _ < 9 by omega)
            refine qr_retI rfl rfl (by decide) (by decide) ?_
            have hw433 : σ427 86 36 = ((σ 86 36) + 1) := (congrFun (congrFun e428 86) 36).trans rfl
            have hw434 : σ427 86 37 = (σ 86 37) := (congrFun (congrFun e428 86) 37).trans rfl
            have hw435 : σ427 86 39 = (σ 86 39) := (congrFun (congrFun e428 86) 39).trans rfl
            exact ⟨_, rfl, hI429, hF430, v431, rfl, by omega, by omega⟩
        · skip
          refine qr_aload_n 33 rfl rfl rfl ?_
          refine qr_get 36 rfl rfl rfl (by decide) rfl ?_
          refine qr_bipush 38 rfl (by decide) rfl ?_
          refine qr_icmp_ne 46 41 rfl rfl rfl (by omega) (by omega) (fun h436 => ?_) (fun h436 => ?_)
          · skip
            refine qr_aload_n 47 rfl rfl rfl ?_
            refine qr_dup 48 rfl rfl rfl ?_
            refine qr_get 51 rfl rfl rfl (by decide) rfl ?_
            refine qr_iconst 52 rfl rfl ?_
            refine qr_iadd 53 rfl rfl ?_
            refine qr_put 56 rfl (by decide) rfl (Nat.le_of_ble_eq_true rfl) (Nat.le_of_ble_eq_true rfl) (Or.inl rfl) (qr_fitI rfl _) rfl ?_
            refine qy_wS (qw_s σ 86 39 ((σ 86 39) + 1)) rfl (fun σ437 e438 => ?_)
            have hI439 : qI σ437 α κ ρ := by rw [e438]; exact qI_s hI 86 39 rfl (show 0 ≤ ((σ 86 39) + 1) ∧ ((σ 86 39) + 1) ≤ 6 by omega)
            have hF440 : qFr [(86, 36), (86, 38), (86, 39)] [] σ α σ437 α := by rw [e438]; exact qFr_s hF0 86 39 _ (by decide)
            refine qr_aload_n 57 rfl rfl rfl ?_
            refine qr_dup 58 rfl rfl rfl ?_
            refine qr_get 61 rfl rfl rfl (by decide) rfl ?_
            refine qy_v (σ 86 36) ((congrFun (congrFun e438 86) 36).trans rfl) ?_
            refine qr_iconst 62 rfl rfl ?_
            refine qr_iadd 63 rfl rfl ?_
            refine qr_put 66 rfl (by decide) rfl (Nat.le_of_ble_eq_true rfl) (Nat.le_of_ble_eq_true rfl) (Or.inl rfl) (qr_fitI rfl _) rfl ?_
            refine qy_wS (qw_s σ437 86 36 ((σ 86 36) + 1)) rfl (fun σ441 e442 => ?_)
            have hI443 : qI σ441 α κ ρ := by rw [e442]; exact qI_s hI439 86 36 rfl (show 0 ≤ ((σ 86 36) + 1) ∧ ((σ 86 36) + 1) ≤ 120 by omega)
            have hF444 : qFr [(86, 36), (86, 38), (86, 39)] [] σ α σ441 α := by rw [e442]; exact qFr_s hF440 86 36 _ (by decide)
            refine qr_iload_n 67 rfl rfl rfl ?_
            refine qr_bipush 69 rfl (by decide) rfl ?_
            refine qr_icmp_ne 79 72 rfl rfl rfl (by omega) (by omega) (fun h => False.elim (by omega)) (fun h445 => ?_)
            refine qr_aload_n 73 rfl rfl rfl ?_
            refine qr_callN 76 rfl rfl rfl (sf_213_86o3 (d := d + 0) hI443 (by omega) (by omega)) ?_
            have hs448 : 0 ≤ σ441 86 36 ∧ σ441 86 36 ≤ 120 := hI443.1 86 36
            have hs449 : σ441 86 36 = ((σ 86 36) + 1) := (congrFun (congrFun e442 86) 36).trans rfl
            have hs450 : 0 ≤ σ441 86 37 ∧ σ441 86 37 ≤ 120 := hI443.1 86 37
            have hs451 : σ441 86 37 = (σ 86 37) := (congrFun (congrFun e442 86) 37).trans ((congrFun (congrFun e438 86) 37).trans rfl)
            have hs452 : 0 ≤ σ441 86 39 ∧ σ441 86 39 ≤ 6 := hI443.1 86 39
            have hs453 : σ441 86 39 = ((σ 86 39) + 1) := (congrFun (congrFun e442 86) 39).trans ((congrFun (congrFun e438 86) 39).trans rfl)
            rintro _ _ ⟨σ454, rfl, hI455, hG456, v446, rfl, hv446, hp447⟩
            have hF457 : qFr [(86, 36), (86, 38), (86, 39)] [] σ α σ454 α := qFr_t hF444 hG456 (by decide) (by decide)
            have hs458 : 0 ≤ σ454 86 36 ∧ σ454 86 36 ≤ 120 := hI455.1 86 36
            have hs459 : 0 ≤ σ454 86 37 ∧ σ454 86 37 ≤ 120 := hI455.1 86 37
            have hs460 : 0 ≤ σ454 86 39 ∧ σ454 86 39 ≤ 6 := hI455.1 86 39
            show qr_W (qe L xs vb) (d + 25) qx_e218 _ (76, _, [.int (qz v446)], qw σ454 α κ ρ, 0, 0)
            refine qr_goto 83 rfl rfl ?_
            refine qr_istore_n _ 84 rfl (by decide) rfl rfl ?_
            refine qr_iload_n 85 rfl rfl rfl ?_
            refine qr_bipush 87 rfl (by decide) rfl ?_
            refine qr_icmp_ne 104 90 rfl rfl rfl (by omega) (by omega) (fun h => False.elim (by omega)) (fun h461 => ?_)
            refine qr_aload_n 91 rfl rfl rfl ?_
            refine qr_bipush 93 rfl (by decide) rfl ?_
            refine qr_callN 96 rfl rfl rfl (sf_221_86t (d := d + 23) hI455 (by omega) (by omega)) ?_
            have hs464 : 0 ≤ σ454 86 36 ∧ σ454 86 36 ≤ 120 := hI455.1 86 36
            have hs465 : 0 ≤ σ454 86 37 ∧ σ454 86 37 ≤ 120 := hI455.1 86 37
            have hs466 : σ454 86 37 = (σ 86 37) := (hG456.1 86 37 (by decide)).trans ((congrFun (congrFun e442 86) 37).trans ((congrFun (congrFun e438 86) 37).trans rfl))
            rintro _ _ ⟨σ467, rfl, hI468, hG469, v462, rfl, hv462, hp463⟩
            have hF470 : qFr [(86, 36), (86, 38), (86, 39)] [] σ α σ467 α := qFr_t hF457 hG469 (by decide) (by decide)
            have hs471 : 0 ≤ σ467 86 36 ∧ σ467 86 36 ≤ 120 := hI468.1 86 36
            show qr_W (qe L xs vb) (d + 25) qx_e218 _ (96, _, [.int (qz v462)], qw σ467 α κ ρ, 0, 0)
            refine qr_if_ne 104 99 rfl rfl rfl (by omega) (fun h472 => ?_) (fun h472 => ?_)
            · skip
              refine qr_aload_n 105 rfl rfl rfl ?_
              refine qr_dup 106 rfl rfl rfl ?_
              refine qr_get 109 rfl rfl rfl (by decide) rfl ?_
              refine qy_v (σ454 86 39) ((hG469.1 86 39 (by decide)).trans rfl) ?_
              refine qr_iconst 110 rfl rfl ?_
              refine qr_isub 111 rfl rfl ?_
              as_aux_lemma =>
                refine qr_put 114 rfl (by decide) rfl (Nat.le_of_ble_eq_true rfl) (Nat.le_of_ble_eq_true rfl) (Or.inl rfl) (qr_fitI rfl _) rfl ?_
                refine qy_wS (qw_s σ467 86 39 ((σ454 86 39) - 1)) rfl (fun σ473 e474 => ?_)
                have hI475 : qI σ473 α κ ρ := by rw [e474]; exact qI_s hI468 86 39 rfl (show 0 ≤ ((σ454 86 39) - 1) ∧ ((σ454 86 39) - 1) ≤ 6 by omega)
                have hF476 : qFr [(86, 36), (86, 38), (86, 39)] [] σ α σ473 α := by rw [e474]; exact qFr_s hF470 86 39 _ (by decide)
                refine qr_iload_n 115 rfl rfl rfl ?_
                refine qr_bipush 117 rfl (by decide) rfl ?_
                refine qr_icmp_ne 124 120 rfl rfl rfl (by omega) (by omega) (fun h => False.elim (by omega)) (fun h477 => ?_)
                refine qr_iload_n 121 rfl rfl rfl ?_
                refine qr_goto 144 rfl rfl ?_
                refine qr_retI rfl rfl (by decide) (by decide) ?_
                have hw478 : σ473 86 36 = (σ467 86 36) := (congrFun (congrFun e474 86) 36).trans rfl
                have hw479 : σ473 86 37 = (σ 86 37) := (congrFun (congrFun e474 86) 37).trans ((hG469.1 86 37 (by decide)).trans ((hG456.1 86 37 (by decide)).trans ((congrFun (congrFun e442 86) 37).trans ((congrFun (congrFun e438 86) 37).trans rfl))))
                have hw480 : σ473 86 39 = ((σ454 86 39) - 1) := (congrFun (congrFun e474 86) 39).trans rfl
                exact ⟨_, rfl, hI475, hF476, v446, rfl, by omega, by omega⟩
            · skip
              refine qr_aload_n 100 rfl rfl rfl ?_
              refine qr_callN 103 rfl rfl rfl (sf_220_86 (d := d + 24) hI468 ) ?_
              rintro _ _ ⟨σ482, rfl, hI483, hG484, v481, rfl, hv481⟩
              have hF485 : qFr [(86, 36), (86, 38), (86, 39)] [] σ α σ482 α := qFr_t hF470 hG484 (by decide) (by decide)
              show qr_W (qe L xs vb) (d + 25) qx_e218 _ (103, _, [.int (qz v481)], qw σ482 α κ ρ, 0, 0)
              refine qr_retI rfl rfl (by decide) (by decide) ?_
              have hw486 : σ482 86 36 = (σ467 86 36) := (hG484.1 86 36 (by decide)).trans rfl
              have hw487 : σ482 86 37 = (σ 86 37) := (hG484.1 86 37 (by decide)).trans ((hG469.1 86 37 (by decide)).trans ((hG456.1 86 37 (by decide)).trans ((congrFun (congrFun e442 86) 37).trans ((congrFun (congrFun e438 86) 37).trans rfl))))
              have hw488 : σ482 86 39 = (σ454 86 39) := (hG484.1 86 39 (by decide)).trans ((hG469.1 86 39 (by decide)).trans rfl)
              exact ⟨_, rfl, hI483, hF485, v481, rfl, by omega, by omega⟩
          · skip
            refine qr_aload_n 42 rfl rfl rfl ?_
            refine qr_callN 45 rfl rfl rfl (sf_220_86 (d := d + 24) hI ) ?_
            rintro _ _ ⟨σ490, rfl, hI491, hG492, v489, rfl, hv489⟩
            have hF493 : qFr [(86, 36), (86, 38), (86, 39)] [] σ α σ490 α := qFr_t hF0 hG492 (by decide) (by decide)
            show qr_W (qe L xs vb) (d + 25) qx_e218 _ (45, _, [.int (qz v489)], qw σ490 α κ ρ, 0, 0)
            refine qr_retI rfl rfl (by decide) (by decide) ?_
            have hw494 : σ490 86 36 = (σ 86 36) := (hG492.1 86 36 (by decide)).trans rfl
            have hw495 : σ490 86 37 = (σ 86 37) := (hG492.1 86 37 (by decide)).trans rfl
            have hw496 : σ490 86 39 = (σ 86 39) := (hG492.1 86 39 (by decide)).trans rfl
            exact ⟨_, rfl, hI491, hF493, v489, rfl, by omega, by omega⟩
  · skip
    refine qr_iconst 8 rfl rfl ?_
    refine qr_retI rfl rfl (by decide) (by decide) ?_
    have hw497 : σ 86 36 = (σ 86 36) := rfl
    have hw498 : σ 86 37 = (σ 86 37) := rfl
    have hw499 : σ 86 39 = (σ 86 39) := rfl
    exact ⟨_, rfl, hI, hF0, 0, rfl, by omega, by omega⟩

set_option maxHeartbeats 4000000 in
set_option maxRecDepth 20000 in
/-- OneRoofModel.product -/
theorem sf_217_86o2 {L : Nat} {xs : Nat → Int} {vb : Bool} {d : Nat} {σ α : Nat → Nat → Int} {κ : Nat → Option Nat} {ρ : Nat}  (hI : qI σ α κ ρ) (p0 : 2 ≤ σ 86 39) (p1 : σ 86 36 ≤ σ 86 37) : qm_T (qe L xs vb) (d + 27) 217 [.ref 86] (qw σ α κ ρ) (fun r w' => ∃ σ', w' = qw σ' α κ ρ ∧ qI σ' α κ ρ ∧ qFr [(86, 36), (86, 38), (86, 39)] [] σ α σ' α ∧ ∃ v : Int, r = some (.int (qz v)) ∧ ((-2147483648) ≤ v ∧ v ≤ 2147483647) ∧ σ 86 39 ≤ σ' 86 39 ∧ σ 86 36 ≤ σ' 86 36 ∧ σ' 86 36 ≤ σ' 86 37 ∧ σ' 86 37 = σ 86 37) := by
  refine qr_start (d := d + 26) qv_e217 (Nat.le_of_ble_eq_true rfl) ?_
  show qr_W (qe L xs vb) (d + 26) qx_e217 _ (0, [(0, .ref 86)], [], _, 0, 0)
  have hF0 := qFr_rf [(86, 36), (86, 38), (86, 39)] [] σ α
  have hz86_39 : 0 ≤ σ 86 39 ∧ σ 86 39 ≤ 6 := hI.1 86 39
  have hz86_36 : 0 ≤ σ 86 36 ∧ σ 86 36 ≤ 120 := hI.1 86 36
  have hz86_37 : 0 ≤ σ 86 37 ∧ σ 86 37 ≤ 120 := hI.1 86 37
  refine qr_aload_n 1 rfl rfl rfl ?_
  refine qr_callN 4 rfl rfl rfl (sf_218_86o2 (d := d + 0) hI (by omega) (by omega)) ?_
  have hs3 : 0 ≤ σ 86 36 ∧ σ 86 36 ≤ 120 := hI.1 86 36
  have hs4 : 0 ≤ σ 86 37 ∧ σ 86 37 ≤ 120 := hI.1 86 37
  have hs5 : 0 ≤ σ 86 39 ∧ σ 86 39 ≤ 6 := hI.1 86 39
  rintro _ _ ⟨σ6, rfl, hI7, hG8, v1, rfl, hv1, hp2⟩
  have hF9 : qFr [(86, 36), (86, 38), (86, 39)] [] σ α σ6 α := qFr_t hF0 hG8 (by decide) (by decide)
  have hs10 : 0 ≤ σ6 86 36 ∧ σ6 86 36 ≤ 120 := hI7.1 86 36
  have hs11 : 0 ≤ σ6 86 37 ∧ σ6 86 37 ≤ 120 := hI7.1 86 37
  have hs12 : 0 ≤ σ6 86 39 ∧ σ6 86 39 ≤ 6 := hI7.1 86 39
  show qr_W (qe L xs vb) (d + 26) qx_e217 _ (4, _, [.int (qz v1)], qw σ6 α κ ρ, 0, 0)
  refine qr_istore_n _ 5 rfl (by decide) rfl rfl ?_
  refine qr_aload_n 6 rfl rfl rfl ?_
  refine qr_callN 9 rfl rfl rfl (sf_219_86t (d := d + 25) hI7 ) ?_
  have hs15 : 0 ≤ σ6 86 36 ∧ σ6 86 36 ≤ 120 := hI7.1 86 36
  have hs16 : 0 ≤ σ6 86 37 ∧ σ6 86 37 ≤ 120 := hI7.1 86 37
  have hs17 : σ6 86 37 = (σ 86 37) := (hG8.1 86 37 (by decide)).trans rfl
  rintro _ _ ⟨rfl, v13, rfl, hv13, hp14⟩
  show qr_W (qe L xs vb) (d + 26) qx_e217 _ (9, _, [.int (qz v13)], qw σ6 α κ ρ, 0, 0)
  refine qr_istore_n _ 10 rfl (by decide) rfl rfl ?_
  have hL384 : ∀ (n : Nat) (ls : qm_L) (u368 u370 : Int) (σ371 : Nat → Nat → Int), ((120 - σ371 86 36).toNat : Int) < (n : Int) → qm_get ls 0 = some (.ref 86) → qm_get ls 1 = some (.int (qz u368)) → qm_get ls 2 = some (.int (qz u370)) → ((-2147483648) ≤ u368 ∧ u368 ≤ 2147483647) → ((-2147483648) ≤ u370 ∧ u370 ≤ 2147483647) → qI σ371 α κ ρ → qFr [(86, 36), (86, 38), (86, 39)] [] σ α σ371 α → σ371 86 37 = (σ 86 37) → 2 ≤ σ371 86 39 → σ 86 39 ≤ σ371 86 39 → σ 86 36 ≤ σ371 86 36 → σ371 86 36 ≤ σ371 86 37 → σ371 86 37 = σ 86 37 → (u370 = 0 ∨ σ371 86 36 < σ371 86 37) → qr_W (qe L xs vb) (d + 26) qx_e217 (fun r w' => ∃ σ', w' = qw σ' α κ ρ ∧ qI σ' α κ ρ ∧ qFr [(86, 36), (86, 38), (86, 39)] [] σ α σ' α ∧ ∃ v : Int, r = some (.int (qz v)) ∧ ((-2147483648) ≤ v ∧ v ≤ 2147483647) ∧ σ 86 39 ≤ σ' 86 39 ∧ σ 86 36 ≤ σ' 86 36 ∧ σ' 86 36 ≤ σ' 86 37 ∧ σ' 86 37 = σ 86 37) (10, ls, [], qw σ371 α κ ρ, 0, 0) := by
    intro n
    induction n with
    | zero => intro ls u368 u370 σ371 hm g366 g367 g369 hf376 hf377 hI373 hF374 hk375 hx378 hx379 hx380 hx381 hx382 hx383; exact False.elim (by omega)
    | succ n ih385 =>
      intro ls u368 u370 σ371 hm g366 g367 g369 hf376 hf377 hI373 hF374 hk375 hx378 hx379 hx380 hx381 hx382 hx383
      have hs386 : 0 ≤ σ371 86 39 ∧ σ371 86 39 ≤ 6 := hI373.1 86 39
      have hs387 : 0 ≤ σ371 86 36 ∧ σ371 86 36 ≤ 120 := hI373.1 86 36
      have hs388 : 0 ≤ σ371 86 37 ∧ σ371 86 37 ≤ 120 := hI373.1 86 37
      refine qr_aload_n 11 rfl g366 rfl ?_
      refine qr_get 14 rfl rfl rfl (by decide) rfl ?_
      have hs389 : (-1) ≤ σ371 86 38 ∧ σ371 86 38 ≤ 120 := hI373.1 86 38
      refine qr_if_ge 94 17 rfl rfl rfl (by omega) (fun h390 => ?_) (fun h390 => ?_)
      · skip
        refine qr_iload_n 95 rfl g367 rfl ?_
        refine qr_retI rfl rfl (by decide) (by decide) ?_
        have hw391 : σ371 86 36 = (σ371 86 36) := rfl
        have hw392 : σ371 86 37 = (σ371 86 37) := rfl
        have hw393 : σ371 86 39 = (σ371 86 39) := rfl
        exact ⟨_, rfl, hI373, hF374, u368, rfl, by omega, by omega⟩
      · skip
        refine qr_iload_n 18 rfl g369 rfl ?_
        refine qr_bipush 20 rfl (by decide) rfl ?_
        refine qr_icmp_eq 35 23 rfl rfl rfl (by omega) (by omega) (fun h394 => ?_) (fun h394 => ?_)
        · skip
          refine qr_aload_n 36 rfl g366 rfl ?_
          refine qr_dup 37 rfl rfl rfl ?_
          refine qr_get 40 rfl rfl rfl (by decide) rfl ?_
          refine qr_iconst 41 rfl rfl ?_
          refine qr_iadd 42 rfl rfl ?_
          refine qr_put 45 rfl (by decide) rfl (Nat.le_of_ble_eq_true rfl) (Nat.le_of_ble_eq_true rfl) (Or.inl rfl) (qr_fitI rfl _) rfl ?_
          refine qy_wS (qw_s σ371 86 36 ((σ371 86 36) + 1)) rfl (fun σ395 e396 => ?_)
          have hI397 : qI σ395 α κ ρ := by rw [e396]; exact qI_s hI373 86 36 rfl (show 0 ≤ ((σ371 86 36) + 1) ∧ ((σ371 86 36) + 1) ≤ 120 by omega)
          have hF398 : qFr [(86, 36), (86, 38), (86, 39)] [] σ α σ395 α := by rw [e396]; exact qFr_s hF374 86 36 _ (by decide)
          refine qr_aload_n 46 rfl g366 rfl ?_
          refine qr_callN 49 rfl rfl rfl (sf_218_86o2 (d := d + 0) hI397 (by omega) (by omega)) ?_
          have hs401 : 0 ≤ σ395 86 36 ∧ σ395 86 36 ≤ 120 := hI397.1 86 36
          have hs402 : σ395 86 36 = ((σ371 86 36) + 1) := (congrFun (congrFun e396 86) 36).trans rfl
          have hs403 : 0 ≤ σ395 86 37 ∧ σ395 86 37 ≤ 120 := hI397.1 86 37
          have hs404 : σ395 86 37 = (σ371 86 37) := (congrFun (congrFun e396 86) 37).trans rfl
          have hs405 : 0 ≤ σ395 86 39 ∧ σ395 86 39 ≤ 6 := hI397.1 86 39
          have hs406 : σ395 86 39 = (σ371 86 39) := (congrFun (congrFun e396 86) 39).trans rfl
          rintro _ _ ⟨σ407, rfl, hI408, hG409, v399, rfl, hv399, hp400⟩
          have hF410 : qFr [(86, 36), (86, 38), (86, 39)] [] σ α σ407 α := qFr_t hF398 hG409 (by decide) (by decide)
          have hs411 : 0 ≤ σ407 86 36 ∧ σ407 86 36 ≤ 120 := hI408.1 86 36
          have hs412 : 0 ≤ σ407 86 37 ∧ σ407 86 37 ≤ 120 := hI408.1 86 37
          have hs413 : 0 ≤ σ407 86 39 ∧ σ407 86 39 ≤ 6 := hI408.1 86 39
          show qr_W (qe L xs vb) (d + 26) qx_e217 _ (49, _, [.int (qz v399)], qw σ407 α κ ρ, 0, 0)
          refine qr_istore_n _ 50 rfl (by decide) rfl rfl ?_
          refine qr_iload_n 51 rfl (qm_gk g369 (by decide) (Or.inr rfl)) rfl ?_
          refine qr_bipush 53 rfl (by decide) rfl ?_
          refine qr_icmp_ne 62 56 rfl rfl rfl (by omega) (by omega) (fun h => False.elim (by omega)) (fun h414 => ?_)
          refine qr_iload_n 57 rfl (qm_gk g367 (by decide) (Or.inl (by decide))) rfl ?_
          refine qr_iload_n 58 rfl (qm_ge _ _ _) rfl ?_
          refine qr_imul 59 rfl rfl ?_
          refine qy_can (fun v415 hv415 => ?_)
          refine qr_goto 85 rfl rfl ?_
          refine qr_istore_n _ 86 rfl (by decide) rfl rfl ?_
          refine qr_aload_n 87 rfl (qm_gk (qm_gk g366 (by decide) (Or.inl (by decide))) (by decide) (Or.inr rfl)) rfl ?_
          refine qr_callN 90 rfl rfl rfl (sf_219_86t (d := d + 25) hI408 ) ?_
          have hs418 : 0 ≤ σ407 86 36 ∧ σ407 86 36 ≤ 120 := hI408.1 86 36
          have hs419 : 0 ≤ σ407 86 37 ∧ σ407 86 37 ≤ 120 := hI408.1 86 37
          have hs420 : σ407 86 37 = (σ371 86 37) := (hG409.1 86 37 (by decide)).trans ((congrFun (congrFun e396 86) 37).trans rfl)
          rintro _ _ ⟨rfl, v416, rfl, hv416, hp417⟩
          show qr_W (qe L xs vb) (d + 26) qx_e217 _ (90, _, [.int (qz v416)], qw σ407 α κ ρ, 0, 0)
          refine qr_istore_n _ 91 rfl (by decide) rfl rfl ?_
          refine qr_goto 10 rfl rfl ?_
          exact ih385 _ v415 v416 σ407 (by omega) (qm_gk (qm_gk (qm_gk g366 (by decide) (Or.inl (by decide))) (by decide) (Or.inr rfl)) (by decide) (Or.inl (by decide))) (qm_gk (qm_ge _ _ _) (by decide) (Or.inr rfl)) (qm_ge _ _ _) (by omega) (by omega) hI408 hF410 ((hG409.1 86 37 (by decide)).trans ((congrFun (congrFun e396 86) 37).trans rfl)) (by have hw0 : σ407 86 39 = (σ407 86 39) := rfl; have hw1 : σ407 86 36 = (σ407 86 36) := rfl; have hw2 : σ407 86 37 = (σ371 86 37) := (hG409.1 86 37 (by decide)).trans ((congrFun (congrFun e396 86) 37).trans rfl); omega) (by have hw0 : σ407 86 39 = (σ407 86 39) := rfl; have hw1 : σ407 86 36 = (σ407 86 36) := rfl; have hw2 : σ407 86 37 = (σ371 86 37) := (hG409.1 86 37 (by decide)).trans ((congrFun (congrFun e396 86) 37).trans rfl); omega) (by have hw0 : σ407 86 39 = (σ407 86 39) := rfl; have hw1 : σ407 86 36 = (σ407 86 36) := rfl; have hw2 : σ407 86 37 = (σ371 86 37) := (hG409.1 86 37 (by decide)).trans ((congrFun (congrFun e396 86) 37).trans rfl); omega) (by have hw0 : σ407 86 39 = (σ407 86 39) := rfl; have hw1 : σ407 86 36 = (σ407 86 36) := rfl; have hw2 : σ407 86 37 = (σ371 86 37) := (hG409.1 86 37 (by decide)).trans ((congrFun (congrFun e396 86) 37).trans rfl); omega) (by have hw0 : σ407 86 39 = (σ407 86 39) := rfl; have hw1 : σ407 86 36 = (σ407 86 36) := rfl; have hw2 : σ407 86 37 = (σ371 86 37) := (hG409.1 86 37 (by decide)).trans ((congrFun (congrFun e396 86) 37).trans rfl); omega) (by have hw0 : σ407 86 39 = (σ407 86 39) := rfl; have hw1 : σ407 86 36 = (σ407 86 36) := rfl; have hw2 : σ407 86 37 = (σ371 86 37) := (hG409.1 86 37 (by decide)).trans ((congrFun (congrFun e396 86) 37).trans rfl); omega)
        · skip
          refine qr_iload_n 24 rfl g369 rfl ?_
          refine qr_bipush 26 rfl (by decide) rfl ?_
          refine qr_icmp_eq 35 29 rfl rfl rfl (by omega) (by omega) (fun h421 => ?_) (fun h421 => ?_)
          · skip
            refine qr_aload_n 36 rfl g366 rfl ?_
            refine qr_dup 37 rfl rfl rfl ?_
            refine qr_get 40 rfl rfl rfl (by decide) rfl ?_
            refine qr_iconst 41 rfl rfl ?_
            refine qr_iadd 42 rfl rfl ?_
            refine qr_put 45 rfl (by decide) rfl (Nat.le_of_ble_eq_true rfl) (Nat.le_of_ble_eq_true rfl) (Or.inl rfl) (qr_fitI rfl _) rfl ?_
            refine qy_wS (qw_s σ371 86 36 ((σ371 86 36) + 1)) rfl (fun σ422 e423 => ?_)
            have hI424 : qI σ422 α κ ρ := by rw [e423]; exact qI_s hI373 86 36 rfl (show 0 ≤ ((σ371 86 36) + 1) ∧ ((σ371 86 36) + 1) ≤ 120 by omega)
            have hF425 : qFr [(86, 36), (86, 38), (86, 39)] [] σ α σ422 α := by rw [e423]; exact qFr_s hF374 86 36 _ (by decide)
            refine qr_aload_n 46 rfl g366 rfl ?_
            refine qr_callN 49 rfl rfl rfl (sf_218_86o2 (d := d + 0) hI424 (by omega) (by omega)) ?_
            have hs428 : 0 ≤ σ422 86 36 ∧ σ422 86 36 ≤ 120 := hI424.1 86 36
            have hs429 : σ422 86 36 = ((σ371 86 36) + 1) := (congrFun (congrFun e423 86) 36).trans rfl
            have hs430 : 0 ≤ σ422 86 37 ∧ σ422 86 37 ≤ 120 := hI424.1 86 37
            have hs431 : σ422 86 37 = (σ371 86 37) := (congrFun (congrFun e423 86) 37).trans rfl
            have hs432 : 0 ≤ σ422 86 39 ∧ σ422 86 39 ≤ 6 := hI424.1 86 39
            have hs433 : σ422 86 39 = (σ371 86 39) := (congrFun (congrFun e423 86) 39).trans rfl
            rintro _ _ ⟨σ434, rfl, hI435, hG436, v426, rfl, hv426, hp427⟩
            have hF437 : qFr [(86, 36), (86, 38), (86, 39)] [] σ α σ434 α := qFr_t hF425 hG436 (by decide) (by decide)
            have hs438 : 0 ≤ σ434 86 36 ∧ σ434 86 36 ≤ 120 := hI435.1 86 36
            have hs439 : 0 ≤ σ434 86 37 ∧ σ434 86 37 ≤ 120 := hI435.1 86 37
            have hs440 : 0 ≤ σ434 86 39 ∧ σ434 86 39 ≤ 6 := hI435.1 86 39
            show qr_W (qe L xs vb) (d + 26) qx_e217 _ (49, _, [.int (qz v426)], qw σ434 α κ ρ, 0, 0)
            refine qr_istore_n _ 50 rfl (by decide) rfl rfl ?_
            refine qr_iload_n 51 rfl (qm_gk g369 (by decide) (Or.inr rfl)) rfl ?_
            refine qr_bipush 53 rfl (by decide) rfl ?_
            refine qr_icmp_ne 62 56 rfl rfl rfl (by omega) (by omega) (fun h441 => ?_) (fun h => False.elim (by omega))
            refine qr_iload_n 63 rfl (qm_ge _ _ _) rfl ?_
            have hJ446 : ∀ (ls : qm_L) (u444 : Int), qm_get ls 0 = some (.ref 86) → ((-2147483648) ≤ u444 ∧ u444 ≤ 2147483647) → qr_W (qe L xs vb) (d + 26) qx_e217 (fun r w' => ∃ σ', w' = qw σ' α κ ρ ∧ qI σ' α κ ρ ∧ qFr [(86, 36), (86, 38), (86, 39)] [] σ α σ' α ∧ ∃ v : Int, r = some (.int (qz v)) ∧ ((-2147483648) ≤ v ∧ v ≤ 2147483647) ∧ σ 86 39 ≤ σ' 86 39 ∧ σ 86 36 ≤ σ' 86 36 ∧ σ' 86 36 ≤ σ' 86 37 ∧ σ' 86 37 = σ 86 37) (85, ls, [.int (qz u444)], qw σ434 α κ ρ, 0, 0) := by
              intro ls u444 g443 hf445
              refine qr_istore_n _ 86 rfl (by decide) rfl rfl ?_
              refine qr_aload_n 87 rfl (qm_gk g443 (by decide) (Or.inr rfl)) rfl ?_
              refine qr_callN 90 rfl rfl rfl (sf_219_86t (d := d + 25) hI435 ) ?_
              have hs449 : 0 ≤ σ434 86 36 ∧ σ434 86 36 ≤ 120 := hI435.1 86 36
              have hs450 : 0 ≤ σ434 86 37 ∧ σ434 86 37 ≤ 120 := hI435.1 86 37
              have hs451 : σ434 86 37 = (σ371 86 37) := (hG436.1 86 37 (by decide)).trans ((congrFun (congrFun e423 86) 37).trans rfl)
              rintro _ _ ⟨rfl, v447, rfl, hv447, hp448⟩
              show qr_W (qe L xs vb) (d + 26) qx_e217 _ (90, _, [.int (qz v447)], qw σ434 α κ ρ, 0, 0)
              refine qr_istore_n _ 91 rfl (by decide) rfl rfl ?_
              refine qr_goto 10 rfl rfl ?_
              exact ih385 _ u444 v447 σ434 (by omega) (qm_gk (qm_gk g443 (by decide) (Or.inr rfl)) (by decide) (Or.inl (by decide))) (qm_gk (qm_ge _ _ _) (by decide) (Or.inr rfl)) (qm_ge _ _ _) (by omega) (by omega) hI435 hF437 ((hG436.1 86 37 (by decide)).trans ((congrFun (congrFun e423 86) 37).trans rfl)) (by have hw0 : σ434 86 39 = (σ434 86 39) := rfl; have hw1 : σ434 86 36 = (σ434 86 36) := rfl; have hw2 : σ434 86 37 = (σ371 86 37) := (hG436.1 86 37 (by decide)).trans ((congrFun (congrFun e423 86) 37).trans rfl); omega) (by have hw0 : σ434 86 39 = (σ434 86 39) := rfl; have hw1 : σ434 86 36 = (σ434 86 36) := rfl; have hw2 : σ434 86 37 = (σ371 86 37) := (hG436.1 86 37 (by decide)).trans ((congrFun (congrFun e423 86) 37).trans rfl); omega) (by have hw0 : σ434 86 39 = (σ434 86 39) := rfl; have hw1 : σ434 86 36 = (σ434 86 36) := rfl; have hw2 : σ434 86 37 = (σ371 86 37) := (hG436.1 86 37 (by decide)).trans ((congrFun (congrFun e423 86) 37).trans rfl); omega) (by have hw0 : σ434 86 39 = (σ434 86 39) := rfl; have hw1 : σ434 86 36 = (σ434 86 36) := rfl; have hw2 : σ434 86 37 = (σ371 86 37) := (hG436.1 86 37 (by decide)).trans ((congrFun (congrFun e423 86) 37).trans rfl); omega) (by have hw0 : σ434 86 39 = (σ434 86 39) := rfl; have hw1 : σ434 86 36 = (σ434 86 36) := rfl; have hw2 : σ434 86 37 = (σ371 86 37) := (hG436.1 86 37 (by decide)).trans ((congrFun (congrFun e423 86) 37).trans rfl); omega) (by have hw0 : σ434 86 39 = (σ434 86 39) := rfl; have hw1 : σ434 86 36 = (σ434 86 36) := rfl; have hw2 : σ434 86 37 = (σ371 86 37) := (hG436.1 86 37 (by decide)).trans ((congrFun (congrFun e423 86) 37).trans rfl); omega)
            refine qr_if_ne 70 66 rfl rfl rfl (by omega) (fun h452 => ?_) (fun h452 => ?_)
            · skip
              refine qr_iload_n 71 rfl (qm_gk g369 (by decide) (Or.inr rfl)) rfl ?_
              refine qr_bipush 73 rfl (by decide) rfl ?_
              refine qr_icmp_ne 82 76 rfl rfl rfl (by omega) (by omega) (fun h => False.elim (by omega)) (fun h453 => ?_)
              refine qr_iload_n 77 rfl (qm_gk g367 (by decide) (Or.inl (by decide))) rfl ?_
              refine qr_iload_n 78 rfl (qm_ge _ _ _) rfl ?_
              refine qr_idivW 79 rfl (by omega) rfl ?_
              refine qy_can (fun v454 hv454 => ?_)
              refine qr_goto 85 rfl rfl ?_
              exact hJ446 _ v454 (qm_gk g366 (by decide) (Or.inl (by decide))) (by omega)
            · skip
              refine qr_iconst 67 rfl rfl ?_
              refine qr_goto 85 rfl rfl ?_
              exact hJ446 _ 0 (qm_gk g366 (by decide) (Or.inl (by decide))) (by omega)
          · skip
            refine qr_iload_n 30 rfl g369 rfl ?_
            refine qr_bipush 32 rfl (by decide) rfl ?_
            refine qr_icmp_ne 94 35 rfl rfl rfl (by omega) (by omega) (fun h455 => ?_) (fun h455 => ?_)
            · skip
              refine qr_iload_n 95 rfl g367 rfl ?_
              refine qr_retI rfl rfl (by decide) (by decide) ?_
              have hw456 : σ371 86 36 = (σ371 86 36) := rfl
              have hw457 : σ371 86 37 = (σ371 86 37) := rfl
              have hw458 : σ371 86 39 = (σ371 86 39) := rfl
              exact ⟨_, rfl, hI373, hF374, u368, rfl, by omega, by omega⟩
            · skip
              refine qr_aload_n 36 rfl g366 rfl ?_
              refine qr_dup 37 rfl rfl rfl ?_
              refine qr_get 40 rfl rfl rfl (by decide) rfl ?_
              refine qr_iconst 41 rfl rfl ?_
              refine qr_iadd 42 rfl rfl ?_
              refine qr_put 45 rfl (by decide) rfl (Nat.le_of_ble_eq_true rfl) (Nat.le_of_ble_eq_true rfl) (Or.inl rfl) (qr_fitI rfl _) rfl ?_
              refine qy_wS (qw_s σ371 86 36 ((σ371 86 36) + 1)) rfl (fun σ459 e460 => ?_)
              have hI461 : qI σ459 α κ ρ := by rw [e460]; exact qI_s hI373 86 36 rfl (show 0 ≤ ((σ371 86 36) + 1) ∧ ((σ371 86 36) + 1) ≤ 120 by omega)
              have hF462 : qFr [(86, 36), (86, 38), (86, 39)] [] σ α σ459 α := by rw [e460]; exact qFr_s hF374 86 36 _ (by decide)
              refine qr_aload_n 46 rfl g366 rfl ?_
              refine qr_callN 49 rfl rfl rfl (sf_218_86o2 (d := d + 0) hI461 (by omega) (by omega)) ?_
              have hs465 : 0 ≤ σ459 86 36 ∧ σ459 86 36 ≤ 120 := hI461.1 86 36
              have hs466 : σ459 86 36 = ((σ371 86 36) + 1) := (congrFun (congrFun e460 86) 36).trans rfl
              have hs467 : 0 ≤ σ459 86 37 ∧ σ459 86 37 ≤ 120 := hI461.1 86 37
              have hs468 : σ459 86 37 = (σ371 86 37) := (congrFun (congrFun e460 86) 37).trans rfl
              have hs469 : 0 ≤ σ459 86 39 ∧ σ459 86 39 ≤ 6 := hI461.1 86 39
              have hs470 : σ459 86 39 = (σ371 86 39) := (congrFun (congrFun e460 86) 39).trans rfl
              rintro _ _ ⟨σ471, rfl, hI472, hG473, v463, rfl, hv463, hp464⟩
              have hF474 : qFr [(86, 36), (86, 38), (86, 39)] [] σ α σ471 α := qFr_t hF462 hG473 (by decide) (by decide)
              have hs475 : 0 ≤ σ471 86 36 ∧ σ471 86 36 ≤ 120 := hI472.1 86 36
              have hs476 : 0 ≤ σ471 86 37 ∧ σ471 86 37 ≤ 120 := hI472.1 86 37
              have hs477 : 0 ≤ σ471 86 39 ∧ σ471 86 39 ≤ 6 := hI472.1 86 39
              show qr_W (qe L xs vb) (d + 26) qx_e217 _ (49, _, [.int (qz v463)], qw σ471 α κ ρ, 0, 0)
              refine qr_istore_n _ 50 rfl (by decide) rfl rfl ?_
              refine qr_iload_n 51 rfl (qm_gk g369 (by decide) (Or.inr rfl)) rfl ?_
              refine qr_bipush 53 rfl (by decide) rfl ?_
              refine qr_icmp_ne 62 56 rfl rfl rfl (by omega) (by omega) (fun h478 => ?_) (fun h => False.elim (by omega))
              refine qr_iload_n 63 rfl (qm_ge _ _ _) rfl ?_
              have hJ483 : ∀ (ls : qm_L) (u481 : Int), qm_get ls 0 = some (.ref 86) → ((-2147483648) ≤ u481 ∧ u481 ≤ 2147483647) → qr_W (qe L xs vb) (d + 26) qx_e217 (fun r w' => ∃ σ', w' = qw σ' α κ ρ ∧ qI σ' α κ ρ ∧ qFr [(86, 36), (86, 38), (86, 39)] [] σ α σ' α ∧ ∃ v : Int, r = some (.int (qz v)) ∧ ((-2147483648) ≤ v ∧ v ≤ 2147483647) ∧ σ 86 39 ≤ σ' 86 39 ∧ σ 86 36 ≤ σ' 86 36 ∧ σ' 86 36 ≤ σ' 86 37 ∧ σ' 86 37 = σ 86 37) (85, ls, [.int (qz u481)], qw σ471 α κ ρ, 0, 0) := by
                intro ls u481 g480 hf482
                refine qr_istore_n _ 86 rfl (by decide) rfl rfl ?_
                refine qr_aload_n 87 rfl (qm_gk g480 (by decide) (Or.inr rfl)) rfl ?_
                refine qr_callN 90 rfl rfl rfl (sf_219_86t (d := d + 25) hI472 ) ?_
                have hs486 : 0 ≤ σ471 86 36 ∧ σ471 86 36 ≤ 120 := hI472.1 86 36
                have hs487 : 0 ≤ σ471 86 37 ∧ σ471 86 37 ≤ 120 := hI472.1 86 37
                have hs488 : σ471 86 37 = (σ371 86 37) := (hG473.1 86 37 (by decide)).trans ((congrFun (congrFun e460 86) 37).trans rfl)
                rintro _ _ ⟨rfl, v484, rfl, hv484, hp485⟩
                show qr_W (qe L xs vb) (d + 26) qx_e217 _ (90, _, [.int (qz v484)], qw σ471 α κ ρ, 0, 0)
                refine qr_istore_n _ 91 rfl (by decide) rfl rfl ?_
                refine qr_goto 10 rfl rfl ?_
                exact ih385 _ u481 v484 σ471 (by omega) (qm_gk (qm_gk g480 (by decide) (Or.inr rfl)) (by decide) (Or.inl (by decide))) (qm_gk (qm_ge _ _ _) (by decide) (Or.inr rfl)) (qm_ge _ _ _) (by omega) (by omega) hI472 hF474 ((hG473.1 86 37 (by decide)).trans ((congrFun (congrFun e460 86) 37).trans rfl)) (by have hw0 : σ471 86 39 = (σ471 86 39) := rfl; have hw1 : σ471 86 36 = (σ471 86 36) := rfl; have hw2 : σ471 86 37 = (σ371 86 37) := (hG473.1 86 37 (by decide)).trans ((congrFun (congrFun e460 86) 37).trans rfl); omega) (by have hw0 : σ471 86 39 = (σ471 86 39) := rfl; have hw1 : σ471 86 36 = (σ471 86 36) := rfl; have hw2 : σ471 86 37 = (σ371 86 37) := (hG473.1 86 37 (by decide)).trans ((congrFun (congrFun e460 86) 37).trans rfl); omega) (by have hw0 : σ471 86 39 = (σ471 86 39) := rfl; have hw1 : σ471 86 36 = (σ471 86 36) := rfl; have hw2 : σ471 86 37 = (σ371 86 37) := (hG473.1 86 37 (by decide)).trans ((congrFun (congrFun e460 86) 37).trans rfl); omega) (by have hw0 : σ471 86 39 = (σ471 86 39) := rfl; have hw1 : σ471 86 36 = (σ471 86 36) := rfl; have hw2 : σ471 86 37 = (σ371 86 37) := (hG473.1 86 37 (by decide)).trans ((congrFun (congrFun e460 86) 37).trans rfl); omega) (by have hw0 : σ471 86 39 = (σ471 86 39) := rfl; have hw1 : σ471 86 36 = (σ471 86 36) := rfl; have hw2 : σ471 86 37 = (σ371 86 37) := (hG473.1 86 37 (by decide)).trans ((congrFun (congrFun e460 86) 37).trans rfl); omega) (by have hw0 : σ471 86 39 = (σ471 86 39) := rfl; have hw1 : σ471 86 36 = (σ471 86 36) := rfl; have hw2 : σ471 86 37 = (σ371 86 37) := (hG473.1 86 37 (by decide)).trans ((congrFun (congrFun e460 86) 37).trans rfl); omega)
              refine qr_if_ne 70 66 rfl rfl rfl (by omega) (fun h489 => ?_) (fun h489 => ?_)
              · skip
                refine qr_iload_n 71 rfl (qm_gk g369 (by decide) (Or.inr rfl)) rfl ?_
                refine qr_bipush 73 rfl (by decide) rfl ?_
                refine qr_icmp_ne 82 76 rfl rfl rfl (by omega) (by omega) (fun h490 => ?_) (fun h => False.elim (by omega))
                refine qr_iload_n 83 rfl (qm_gk g367 (by decide) (Or.inl (by decide))) rfl ?_
                refine qr_iload_n 84 rfl (qm_ge _ _ _) rfl ?_
                refine qr_iremW 85 rfl (by omega) rfl ?_
                refine qy_can (fun v491 hv491 => ?_)
                exact hJ483 _ v491 (qm_gk g366 (by decide) (Or.inl (by decide))) (by omega)
              · skip
                refine qr_iconst 67 rfl rfl ?_
                refine qr_goto 85 rfl rfl ?_
                exact hJ483 _ 0 (qm_gk g366 (by decide) (Or.inl (by decide))) (by omega)
  exact hL384 ((((120 - σ6 86 36).toNat : Int) + 1 : Int)).toNat _ v1 v13 σ6 (by omega) rfl rfl rfl (by omega) (by omega) hI7 hF9 ((hG8.1 86 37 (by decide)).trans rfl) (by have hw0 : σ6 86 39 = (σ6 86 39) := rfl; have hw1 : σ6 86 36 = (σ6 86 36) := rfl; have hw2 : σ6 86 37 = (σ 86 37) := (hG8.1 86 37 (by decide)).trans rfl; omega) (by have hw0 : σ6 86 39 = (σ6 86 39) := rfl; have hw1 : σ6 86 36 = (σ6 86 36) := rfl; have hw2 : σ6 86 37 = (σ 86 37) := (hG8.1 86 37 (by decide)).trans rfl; omega) (by have hw0 : σ6 86 39 = (σ6 86 39) := rfl; have hw1 : σ6 86 36 = (σ6 86 36) := rfl; have hw2 : σ6 86 37 = (σ 86 37) := (hG8.1 86 37 (by decide)).trans rfl; omega) (by have hw0 : σ6 86 39 = (σ6 86 39) := rfl; have hw1 : σ6 86 36 = (σ6 86 36) := rfl; have hw2 : σ6 86 37 = (σ 86 37) := (hG8.1 86 37 (by decide)).trans rfl; omega) (by have hw0 : σ6 86 39 = (σ6 86 39) := rfl; have hw1 : σ6 86 36 = (σ6 86 36) := rfl; have hw2 : σ6 86 37 = (σ 86 37) := (hG8.1 86 37 (by decide)).trans rfl; omega) (by have hw0 : σ6 86 39 = (σ6 86 39) := rfl; have hw1 : σ6 86 36 = (σ6 86 36) := rfl; have hw2 : σ6 86 37 = (σ 86 37) := (hG8.1 86 37 (by decide)).trans rfl; omega)

set_option maxHeartbeats 4000000 in
set_option maxRecDepth 20000 in
/-- OneRoofModel.sums -/
theorem sf_216_86o2 {L : Nat} {xs : Nat → Int} {vb : Bool} {d : Nat} {σ α : Nat → Nat → Int} {κ : Nat → Option Nat} {ρ : Nat}  (hI : qI σ α κ ρ) (p0 : 2 ≤ σ 86 39) (p1 : σ 86 36 ≤ σ 86 37) : qm_T (qe L xs vb) (d + 28) 216 [.ref 86] (qw σ α κ ρ) (fun r w' => ∃ σ', w' = qw σ' α κ ρ ∧ qI σ' α κ ρ ∧ qFr [(86, 36), (86, 38), (86, 39)] [] σ α σ' α ∧ ∃ v : Int, r = some (.int (qz v)) ∧ ((-2147483648) ≤ v ∧ v ≤ 2147483647) ∧ σ 86 39 ≤ σ' 86 39 ∧ σ 86 36 ≤ σ' 86 36 ∧ σ' 86 36 ≤ σ' 86 37 ∧ σ' 86 37 = σ 86 37) := by
  refine qr_start (d := d + 27) qv_e216 (Nat.le_of_ble_eq_true rfl) ?_
  show qr_W (qe L xs vb) (d + 27) qx_e216 _ (0, [(0, .ref 86)], [], _, 0, 0)
  have hF0 := qFr_rf [(86, 36), (86, 38), (86, 39)] [] σ α
  have hz86_39 : 0 ≤ σ 86 39 ∧ σ 86 39 ≤ 6 := hI.1 86 39
  have hz86_36 : 0 ≤ σ 86 36 ∧ σ 86 36 ≤ 120 := hI.1 86 36
  have hz86_37 : 0 ≤ σ 86 37 ∧ σ 86 37 ≤ 120 := hI.1 86 37
  refine qr_aload_n 1 rfl rfl rfl ?_
  refine qr_callN 4 rfl rfl rfl (sf_217_86o2 (d := d + 0) hI (by omega) (by omega)) ?_
  have hs3 : 0 ≤ σ 86 36 ∧ σ 86 36 ≤ 120 := hI.1 86 36
  have hs4 : 0 ≤ σ 86 37 ∧ σ 86 37 ≤ 120 := hI.1 86 37
  have hs5 : 0 ≤ σ 86 39 ∧ σ 86 39 ≤ 6 := hI.1 86 39
  rintro _ _ ⟨σ6, rfl, hI7, hG8, v1, rfl, hv1, hp2⟩
  have hF9 : qFr [(86, 36), (86, 38), (86, 39)] [] σ α σ6 α := qFr_t hF0 hG8 (by decide) (by decide)
  have hs10 : 0 ≤ σ6 86 36 ∧ σ6 86 36 ≤ 120 := hI7.1 86 36
  have hs11 : 0 ≤ σ6 86 37 ∧ σ6 86 37 ≤ 120 := hI7.1 86 37
  have hs12 : 0 ≤ σ6 86 39 ∧ σ6 86 39 ≤ 6 := hI7.1 86 39
  show qr_W (qe L xs vb) (d + 27) qx_e216 _ (4, _, [.int (qz v1)], qw σ6 α κ ρ, 0, 0)
  refine qr_istore_n _ 5 rfl (by decide) rfl rfl ?_
  have hL435 : ∀ (n : Nat) (ls : qm_L) (u423 : Int) (σ424 : Nat → Nat → Int), ((120 - σ424 86 36).toNat : Int) < (n : Int) → qm_get ls 0 = some (.ref 86) → qm_get ls 1 = some (.int (qz u423)) → ((-2147483648) ≤ u423 ∧ u423 ≤ 2147483647) → qI σ424 α κ ρ → qFr [(86, 36), (86, 38), (86, 39)] [] σ α σ424 α → σ424 86 37 = (σ 86 37) → 2 ≤ σ424 86 39 → σ 86 39 ≤ σ424 86 39 → σ 86 36 ≤ σ424 86 36 → σ424 86 36 ≤ σ424 86 37 → σ424 86 37 = σ 86 37 → qr_W (qe L xs vb) (d + 27) qx_e216 (fun r w' => ∃ σ', w' = qw σ' α κ ρ ∧ qI σ' α κ ρ ∧ qFr [(86, 36), (86, 38), (86, 39)] [] σ α σ' α ∧ ∃ v : Int, r = some (.int (qz v)) ∧ ((-2147483648) ≤ v ∧ v ≤ 2147483647) ∧ σ 86 39 ≤ σ' 86 39 ∧ σ 86 36 ≤ σ' 86 36 ∧ σ' 86 36 ≤ σ' 86 37 ∧ σ' 86 37 = σ 86 37) (5, ls, [], qw σ424 α κ ρ, 0, 0) := by
    intro n
    induction n with
    | zero => intro ls u423 σ424 hm g421 g422 hf429 hI426 hF427 hk428 hx430 hx431 hx432 hx433 hx434; exact False.elim (by omega)
    | succ n ih436 =>
      intro ls u423 σ424 hm g421 g422 hf429 hI426 hF427 hk428 hx430 hx431 hx432 hx433 hx434
      have hs437 : 0 ≤ σ424 86 39 ∧ σ424 86 39 ≤ 6 := hI426.1 86 39
      have hs438 : 0 ≤ σ424 86 36 ∧ σ424 86 36 ≤ 120 := hI426.1 86 36
      have hs439 : 0 ≤ σ424 86 37 ∧ σ424 86 37 ≤ 120 := hI426.1 86 37
      refine qr_aload_n 6 rfl g421 rfl ?_
      refine qr_get 9 rfl rfl rfl (by decide) rfl ?_
      have hs440 : (-1) ≤ σ424 86 38 ∧ σ424 86 38 ≤ 120 := hI426.1 86 38
      refine qr_if_ge 77 12 rfl rfl rfl (by omega) (fun h441 => ?_) (fun h441 => ?_)
      · skip
        refine qr_iload_n 78 rfl g422 rfl ?_
        refine qr_retI rfl rfl (by decide) (by decide) ?_
        have hw442 : σ424 86 36 = (σ424 86 36) := rfl
        have hw443 : σ424 86 37 = (σ424 86 37) := rfl
        have hw444 : σ424 86 39 = (σ424 86 39) := rfl
        exact ⟨_, rfl, hI426, hF427, u423, rfl, by omega, by omega⟩
      · skip
        refine qr_aload_n 13 rfl g421 rfl ?_
        refine qr_callN 16 rfl rfl rfl (sf_219_86t (d := d + 26) hI426 ) ?_
        have hs447 : 0 ≤ σ424 86 36 ∧ σ424 86 36 ≤ 120 := hI426.1 86 36
        have hs448 : 0 ≤ σ424 86 37 ∧ σ424 86 37 ≤ 120 := hI426.1 86 37
        rintro _ _ ⟨rfl, v445, rfl, hv445, hp446⟩
        show qr_W (qe L xs vb) (d + 27) qx_e216 _ (16, _, [.int (qz v445)], qw σ424 α κ ρ, 0, 0)
        refine qr_bipush 18 rfl (by decide) rfl ?_
        refine qr_icmp_eq 30 21 rfl rfl rfl (by omega) (by omega) (fun h449 => ?_) (fun h449 => ?_)
        · skip
          refine qr_aload_n 31 rfl g421 rfl ?_
          refine qr_callN 34 rfl rfl rfl (sf_219_86t (d := d + 26) hI426 ) ?_
          have hs452 : 0 ≤ σ424 86 36 ∧ σ424 86 36 ≤ 120 := hI426.1 86 36
          have hs453 : 0 ≤ σ424 86 37 ∧ σ424 86 37 ≤ 120 := hI426.1 86 37
          rintro _ _ ⟨rfl, v450, rfl, hv450, hp451⟩
          show qr_W (qe L xs vb) (d + 27) qx_e216 _ (34, _, [.int (qz v450)], qw σ424 α κ ρ, 0, 0)
          refine qr_bipush 36 rfl (by decide) rfl ?_
          refine qr_icmp_ne 43 39 rfl rfl rfl (by omega) (by omega) (fun h454 => ?_) (fun h454 => ?_)
          · skip
            refine qr_iconst 44 rfl rfl ?_
            refine qr_istore_n _ 45 rfl (by decide) rfl rfl ?_
            refine qr_aload_n 46 rfl (qm_gk g421 (by decide) (Or.inl (by decide))) rfl ?_
            refine qr_dup 47 rfl rfl rfl ?_
            refine qr_get 50 rfl rfl rfl (by decide) rfl ?_
            refine qr_iconst 51 rfl rfl ?_
            refine qr_iadd 52 rfl rfl ?_
            refine qr_put 55 rfl (by decide) rfl (Nat.le_of_ble_eq_true rfl) (Nat.le_of_ble_eq_true rfl) (Or.inl rfl) (qr_fitI rfl _) rfl ?_
            refine qy_wS (qw_s σ424 86 36 ((σ424 86 36) + 1)) rfl (fun σ455 e456 => ?_)
            have hI457 : qI σ455 α κ ρ := by rw [e456]; exact qI_s hI426 86 36 rfl (show 0 ≤ ((σ424 86 36) + 1) ∧ ((σ424 86 36) + 1) ≤ 120 by omega)
            have hF458 : qFr [(86, 36), (86, 38), (86, 39)] [] σ α σ455 α := by rw [e456]; exact qFr_s hF427 86 36 _ (by decide)
            refine qr_aload_n 56 rfl (qm_gk g421 (by decide) (Or.inl (by decide))) rfl ?_
            refine qr_callN 59 rfl rfl rfl (sf_217_86o2 (d := d + 0) hI457 (by omega) (by omega)) ?_
            have hs461 : 0 ≤ σ455 86 36 ∧ σ455 86 36 ≤ 120 := hI457.1 86 36
            have hs462 : σ455 86 36 = ((σ424 86 36) + 1) := (congrFun (congrFun e456 86) 36).trans rfl
            have hs463 : 0 ≤ σ455 86 37 ∧ σ455 86 37 ≤ 120 := hI457.1 86 37
            have hs464 : σ455 86 37 = (σ424 86 37) := (congrFun (congrFun e456 86) 37).trans rfl
            have hs465 : 0 ≤ σ455 86 39 ∧ σ455 86 39 ≤ 6 := hI457.1 86 39
            have hs466 : σ455 86 39 = (σ424 86 39) := (congrFun (congrFun e456 86) 39).trans rfl
            rintro _ _ ⟨σ467, rfl, hI468, hG469, v459, rfl, hv459, hp460⟩
            have hF470 : qFr [(86, 36), (86, 38), (86, 39)] [] σ α σ467 α := qFr_t hF458 hG469 (by decide) (by decide)
            have hs471 : 0 ≤ σ467 86 36 ∧ σ467 86 36 ≤ 120 := hI468.1 86 36
            have hs472 : 0 ≤ σ467 86 37 ∧ σ467 86 37 ≤ 120 := hI468.1 86 37
            have hs473 : 0 ≤ σ467 86 39 ∧ σ467 86 39 ≤ 6 := hI468.1 86 39
            show qr_W (qe L xs vb) (d + 27) qx_e216 _ (59, _, [.int (qz v459)], qw σ467 α κ ρ, 0, 0)
            refine qr_istore_n _ 60 rfl (by decide) rfl rfl ?_
            refine qr_iload_n 61 rfl (qm_gk (qm_ge _ _ _) (by decide) (Or.inr rfl)) rfl ?_
            refine qr_if_eq 70 64 rfl rfl rfl (by omega) (fun h474 => ?_) (fun h => False.elim (by omega))
            refine qr_iload_n 71 rfl (qm_gk (qm_gk g422 (by decide) (Or.inr rfl)) (by decide) (Or.inl (by decide))) rfl ?_
            refine qr_iload_n 72 rfl (qm_ge _ _ _) rfl ?_
            refine qr_isub 73 rfl rfl ?_
            refine qy_can (fun v475 hv475 => ?_)
            refine qr_istore_n _ 74 rfl (by decide) rfl rfl ?_
            refine qr_goto 5 rfl rfl ?_
            exact ih436 _ v475 σ467 (by omega) (qm_gk (qm_gk (qm_gk g421 (by decide) (Or.inl (by decide))) (by decide) (Or.inl (by decide))) (by decide) (Or.inr rfl)) (qm_ge _ _ _) (by omega) hI468 hF470 ((hG469.1 86 37 (by decide)).trans ((congrFun (congrFun e456 86) 37).trans rfl)) (by have hw0 : σ467 86 39 = (σ467 86 39) := rfl; have hw1 : σ467 86 36 = (σ467 86 36) := rfl; have hw2 : σ467 86 37 = (σ424 86 37) := (hG469.1 86 37 (by decide)).trans ((congrFun (congrFun e456 86) 37).trans rfl); omega) (by have hw0 : σ467 86 39 = (σ467 86 39) := rfl; have hw1 : σ467 86 36 = (σ467 86 36) := rfl; have hw2 : σ467 86 37 = (σ424 86 37) := (hG469.1 86 37 (by decide)).trans ((congrFun (congrFun e456 86) 37).trans rfl); omega) (by have hw0 : σ467 86 39 = (σ467 86 39) := rfl; have hw1 : σ467 86 36 = (σ467 86 36) := rfl; have hw2 : σ467 86 37 = (σ424 86 37) := (hG469.1 86 37 (by decide)).trans ((congrFun (congrFun e456 86) 37).trans rfl); omega) (by have hw0 : σ467 86 39 = (σ467 86 39) := rfl; have hw1 : σ467 86 36 = (σ467 86 36) := rfl; have hw2 : σ467 86 37 = (σ424 86 37) := (hG469.1 86 37 (by decide)).trans ((congrFun (congrFun e456 86) 37).trans rfl); omega) (by have hw0 : σ467 86 39 = (σ467 86 39) := rfl; have hw1 : σ467 86 36 = (σ467 86 36) := rfl; have hw2 : σ467 86 37 = (σ424 86 37) := (hG469.1 86 37 (by decide)).trans ((congrFun (congrFun e456 86) 37).trans rfl); omega)
          · skip
            refine qr_iconst 40 rfl rfl ?_
            refine qr_goto 44 rfl rfl ?_
            refine qr_istore_n _ 45 rfl (by decide) rfl rfl ?_
            refine qr_aload_n 46 rfl (qm_gk g421 (by decide) (Or.inl (by decide))) rfl ?_
            refine qr_dup 47 rfl rfl rfl ?_
            refine qr_get 50 rfl rfl rfl (by decide) rfl ?_
            refine qr_iconst 51 rfl rfl ?_
            refine qr_iadd 52 rfl rfl ?_
            refine qr_put 55 rfl (by decide) rfl (Nat.le_of_ble_eq_true rfl) (Nat.le_of_ble_eq_true rfl) (Or.inl rfl) (qr_fitI rfl _) rfl ?_
            refine qy_wS (qw_s σ424 86 36 ((σ424 86 36) + 1)) rfl (fun σ476 e477 => ?_)
            have hI478 : qI σ476 α κ ρ := by rw [e477]; exact qI_s hI426 86 36 rfl (show 0 ≤ ((σ424 86 36) + 1) ∧ ((σ424 86 36) + 1) ≤ 120 by omega)
            have hF479 : qFr [(86, 36), (86, 38), (86, 39)] [] σ α σ476 α := by rw [e477]; exact qFr_s hF427 86 36 _ (by decide)
            refine qr_aload_n 56 rfl (qm_gk g421 (by decide) (Or.inl (by decide))) rfl ?_
            refine qr_callN 59 rfl rfl rfl (sf_217_86o2 (d := d + 0) hI478 (by omega) (by omega)) ?_
            have hs482 : 0 ≤ σ476 86 36 ∧ σ476 86 36 ≤ 120 := hI478.1 86 36
            have hs483 : σ476 86 36 = ((σ424 86 36) + 1) := (congrFun (congrFun e477 86) 36).trans rfl
            have hs484 : 0 ≤ σ476 86 37 ∧ σ476 86 37 ≤ 120 := hI478.1 86 37
            have hs485 : σ476 86 37 = (σ424 86 37) := (congrFun (congrFun e477 86) 37).trans rfl
            have hs486 : 0 ≤ σ476 86 39 ∧ σ476 86 39 ≤ 6 := hI478.1 86 39
            have hs487 : σ476 86 39 = (σ424 86 39) := (congrFun (congrFun e477 86) 39).trans rfl
            rintro _ _ ⟨σ488, rfl, hI489, hG490, v480, rfl, hv480, hp481⟩
            have hF491 : qFr [(86, 36), (86, 38), (86, 39)] [] σ α σ488 α := qFr_t hF479 hG490 (by decide) (by decide)
            have hs492 : 0 ≤ σ488 86 36 ∧ σ488 86 36 ≤ 120 := hI489.1 86 36
            have hs493 : 0 ≤ σ488 86 37 ∧ σ488 86 37 ≤ 120 := hI489.1 86 37
            have hs494 : 0 ≤ σ488 86 39 ∧ σ488 86 39 ≤ 6 := hI489.1 86 39
            show qr_W (qe L xs vb) (d + 27) qx_e216 _ (59, _, [.int (qz v480)], qw σ488 α κ ρ, 0, 0)
            refine qr_istore_n _ 60 rfl (by decide) rfl rfl ?_
            refine qr_iload_n 61 rfl (qm_gk (qm_ge _ _ _) (by decide) (Or.inr rfl)) rfl ?_
            refine qr_if_eq 70 64 rfl rfl rfl (by omega) (fun h => False.elim (by omega)) (fun h495 => ?_)
            refine qr_iload_n 65 rfl (qm_gk (qm_gk g422 (by decide) (Or.inr rfl)) (by decide) (Or.inl (by decide))) rfl ?_
            refine qr_iload_n 66 rfl (qm_ge _ _ _) rfl ?_
            refine qr_iadd 67 rfl rfl ?_
            refine qy_can (fun v496 hv496 => ?_)
            refine qr_goto 73 rfl rfl ?_
            refine qr_istore_n _ 74 rfl (by decide) rfl rfl ?_
            refine qr_goto 5 rfl rfl ?_
            exact ih436 _ v496 σ488 (by omega) (qm_gk (qm_gk (qm_gk g421 (by decide) (Or.inl (by decide))) (by decide) (Or.inl (by decide))) (by decide) (Or.inr rfl)) (qm_ge _ _ _) (by omega) hI489 hF491 ((hG490.1 86 37 (by decide)).trans ((congrFun (congrFun e477 86) 37).trans rfl)) (by have hw0 : σ488 86 39 = (σ488 86 39) := rfl; have hw1 : σ488 86 36 = (σ488 86 36) := rfl; have hw2 : σ488 86 37 = (σ424 86 37) := (hG490.1 86 37 (by decide)).trans ((congrFun (congrFun e477 86) 37).trans rfl); omega) (by have hw0 : σ488 86 39 = (σ488 86 39) := rfl; have hw1 : σ488 86 36 = (σ488 86 36) := rfl; have hw2 : σ488 86 37 = (σ424 86 37) := (hG490.1 86 37 (by decide)).trans ((congrFun (congrFun e477 86) 37).trans rfl); omega) (by have hw0 : σ488 86 39 = (σ488 86 39) := rfl; have hw1 : σ488 86 36 = (σ488 86 36) := rfl; have hw2 : σ488 86 37 = (σ424 86 37) := (hG490.1 86 37 (by decide)).trans ((congrFun (congrFun e477 86) 37).trans rfl); omega) (by have hw0 : σ488 86 39 = (σ488 86 39) := rfl; have hw1 : σ488 86 36 = (σ488 86 36) := rfl; have hw2 : σ488 86 37 = (σ424 86 37) := (hG490.1 86 37 (by decide)).trans ((congrFun (congrFun e477 86) 37).trans rfl); omega) (by have hw0 : σ488 86 39 = (σ488 86 39) := rfl; have hw1 : σ488 86 36 = (σ488 86 36) := rfl; have hw2 : σ488 86 37 = (σ424 86 37) := (hG490.1 86 37 (by decide)).trans ((congrFun (congrFun e477 86) 37).trans rfl); omega)
        · skip
          refine qr_aload_n 22 rfl g421 rfl ?_
          refine qr_callN 25 rfl rfl rfl (sf_219_86t (d := d + 26) hI426 ) ?_
          have hs499 : 0 ≤ σ424 86 36 ∧ σ424 86 36 ≤ 120 := hI426.1 86 36
          have hs500 : 0 ≤ σ424 86 37 ∧ σ424 86 37 ≤ 120 := hI426.1 86 37
          rintro _ _ ⟨rfl, v497, rfl, hv497, hp498⟩
          show qr_W (qe L xs vb) (d + 27) qx_e216 _ (25, _, [.int (qz v497)], qw σ424 α κ ρ, 0, 0)
          refine qr_bipush 27 rfl (by decide) rfl ?_
          refine qr_icmp_ne 77 30 rfl rfl rfl (by omega) (by omega) (fun h501 => ?_) (fun h501 => ?_)
          · skip
            refine qr_iload_n 78 rfl g422 rfl ?_
            refine qr_retI rfl rfl (by decide) (by decide) ?_
            have hw502 : σ424 86 36 = (σ424 86 36) := rfl
            have hw503 : σ424 86 37 = (σ424 86 37) := rfl
            have hw504 : σ424 86 39 = (σ424 86 39) := rfl
            exact ⟨_, rfl, hI426, hF427, u423, rfl, by omega, by omega⟩
          · skip
            refine qr_aload_n 31 rfl g421 rfl ?_
            refine qr_callN 34 rfl rfl rfl (sf_219_86t (d := d + 26) hI426 ) ?_
            have hs507 : 0 ≤ σ424 86 36 ∧ σ424 86 36 ≤ 120 := hI426.1 86 36
            have hs508 : 0 ≤ σ424 86 37 ∧ σ424 86 37 ≤ 120 := hI426.1 86 37
            rintro _ _ ⟨rfl, v505, rfl, hv505, hp506⟩
            show qr_W (qe L xs vb) (d + 27) qx_e216 _ (34, _, [.int (qz v505)], qw σ424 α κ ρ, 0, 0)
            refine qr_bipush 36 rfl (by decide) rfl ?_
            refine qr_icmp_ne 43 39 rfl rfl rfl (by omega) (by omega) (fun h509 => ?_) (fun h509 => ?_)
            · skip
              refine qr_iconst 44 rfl rfl ?_
              refine qr_istore_n _ 45 rfl (by decide) rfl rfl ?_
              refine qr_aload_n 46 rfl (qm_gk g421 (by decide) (Or.inl (by decide))) rfl ?_
              refine qr_dup 47 rfl rfl rfl ?_
              refine qr_get 50 rfl rfl rfl (by decide) rfl ?_
              refine qr_iconst 51 rfl rfl ?_
              refine qr_iadd 52 rfl rfl ?_
              refine qr_put 55 rfl (by decide) rfl (Nat.le_of_ble_eq_true rfl) (Nat.le_of_ble_eq_true rfl) (Or.inl rfl) (qr_fitI rfl _) rfl ?_
              refine qy_wS (qw_s σ424 86 36 ((σ424 86 36) + 1)) rfl (fun σ510 e511 => ?_)
              have hI512 : qI σ510 α κ ρ := by rw [e511]; exact qI_s hI426 86 36 rfl (show 0 ≤ ((σ424 86 36) + 1) ∧ ((σ424 86 36) + 1) ≤ 120 by omega)
              have hF513 : qFr [(86, 36), (86, 38), (86, 39)] [] σ α σ510 α := by rw [e511]; exact qFr_s hF427 86 36 _ (by decide)
              refine qr_aload_n 56 rfl (qm_gk g421 (by decide) (Or.inl (by decide))) rfl ?_
              refine qr_callN 59 rfl rfl rfl (sf_217_86o2 (d := d + 0) hI512 (by omega) (by omega)) ?_
              have hs516 : 0 ≤ σ510 86 36 ∧ σ510 86 36 ≤ 120 := hI512.1 86 36
              have hs517 : σ510 86 36 = ((σ424 86 36) + 1) := (congrFun (congrFun e511 86) 36).trans rfl
              have hs518 : 0 ≤ σ510 86 37 ∧ σ510 86 37 ≤ 120 := hI512.1 86 37
              have hs519 : σ510 86 37 = (σ424 86 37) := (congrFun (congrFun e511 86) 37).trans rfl
              have hs520 : 0 ≤ σ510 86 39 ∧ σ510 86 39 ≤ 6 := hI512.1 86 39
              have hs521 : σ510 86 39 = (σ424 86 39) := (congrFun (congrFun e511 86) 39).trans rfl
              rintro _ _ ⟨σ522, rfl, hI523, hG524, v514, rfl, hv514, hp515⟩
              have hF525 : qFr [(86, 36), (86, 38), (86, 39)] [] σ α σ522 α := qFr_t hF513 hG524 (by decide) (by decide)
              have hs526 : 0 ≤ σ522 86 36 ∧ σ522 86 36 ≤ 120 := hI523.1 86 36
              have hs527 : 0 ≤ σ522 86 37 ∧ σ522 86 37 ≤ 120 := hI523.1 86 37
              have hs528 : 0 ≤ σ522 86 39 ∧ σ522 86 39 ≤ 6 := hI523.1 86 39
              show qr_W (qe L xs vb) (d + 27) qx_e216 _ (59, _, [.int (qz v514)], qw σ522 α κ ρ, 0, 0)
              refine qr_istore_n _ 60 rfl (by decide) rfl rfl ?_
              refine qr_iload_n 61 rfl (qm_gk (qm_ge _ _ _) (by decide) (Or.inr rfl)) rfl ?_
              refine qr_if_eq 70 64 rfl rfl rfl (by omega) (fun h529 => ?_) (fun h => False.elim (by omega))
              refine qr_iload_n 71 rfl (qm_gk (qm_gk g422 (by decide) (Or.inr rfl)) (by decide) (Or.inl (by decide))) rfl ?_
              refine qr_iload_n 72 rfl (qm_ge _ _ _) rfl ?_
              refine qr_isub 73 rfl rfl ?_
              refine qy_can (fun v530 hv530 => ?_)
              refine qr_istore_n _ 74 rfl (by decide) rfl rfl ?_
              refine qr_goto 5 rfl rfl ?_
              exact ih436 _ v530 σ522 (by omega) (qm_gk (qm_gk (qm_gk g421 (by decide) (Or.inl (by decide))) (by decide) (Or.inl (by decide))) (by decide) (Or.inr rfl)) (qm_ge _ _ _) (by omega) hI523 hF525 ((hG524.1 86 37 (by decide)).trans ((congrFun (congrFun e511 86) 37).trans rfl)) (by have hw0 : σ522 86 39 = (σ522 86 39) := rfl; have hw1 : σ522 86 36 = (σ522 86 36) := rfl; have hw2 : σ522 86 37 = (σ424 86 37) := (hG524.1 86 37 (by decide)).trans ((congrFun (congrFun e511 86) 37).trans rfl); omega) (by have hw0 : σ522 86 39 = (σ522 86 39) := rfl; have hw1 : σ522 86 36 = (σ522 86 36) := rfl; have hw2 : σ522 86 37 = (σ424 86 37) := (hG524.1 86 37 (by decide)).trans ((congrFun (congrFun e511 86) 37).trans rfl); omega) (by have hw0 : σ522 86 39 = (σ522 86 39) := rfl; have hw1 : σ522 86 36 = (σ522 86 36) := rfl; have hw2 : σ522 86 37 = (σ424 86 37) := (hG524.1 86 37 (by decide)).trans ((congrFun (congrFun e511 86) 37).trans rfl); omega) (by have hw0 : σ522 86 39 = (σ522 86 39) := rfl; have hw1 : σ522 86 36 = (σ522 86 36) := rfl; have hw2 : σ522 86 37 = (σ424 86 37) := (hG524.1 86 37 (by decide)).trans ((congrFun (congrFun e511 86) 37).trans rfl); omega) (by have hw0 : σ522 86 39 = (σ522 86 39) := rfl; have hw1 : σ522 86 36 = (σ522 86 36) := rfl; have hw2 : σ522 86 37 = (σ424 86 37) := (hG524.1 86 37 (by decide)).trans ((congrFun (congrFun e511 86) 37).trans rfl); omega)
            · skip
              refine qr_iconst 40 rfl rfl ?_
              refine qr_goto 44 rfl rfl ?_
              refine qr_istore_n _ 45 rfl (by decide) rfl rfl ?_
              refine qr_aload_n 46 rfl (qm_gk g421 (by decide) (Or.inl (by decide))) rfl ?_
              refine qr_dup 47 rfl rfl rfl ?_
              refine qr_get 50 rfl rfl rfl (by decide) rfl ?_
              refine qr_iconst 51 rfl rfl ?_
              refine qr_iadd 52 rfl rfl ?_
              refine qr_put 55 rfl (by decide) rfl (Nat.le_of_ble_eq_true rfl) (Nat.le_of_ble_eq_true rfl) (Or.inl rfl) (qr_fitI rfl _) rfl ?_
              refine qy_wS (qw_s σ424 86 36 ((σ424 86 36) + 1)) rfl (fun σ531 e532 => ?_)
              have hI533 : qI σ531 α κ ρ := by rw [e532]; exact qI_s hI426 86 36 rfl (show 0 ≤ ((σ424 86 36) + 1) ∧ ((σ424 86 36) + 1) ≤ 120 by omega)
              have hF534 : qFr [(86, 36), (86, 38), (86, 39)] [] σ α σ531 α := by rw [e532]; exact qFr_s hF427 86 36 _ (by decide)
              refine qr_aload_n 56 rfl (qm_gk g421 (by decide) (Or.inl (by decide))) rfl ?_
              refine qr_callN 59 rfl rfl rfl (sf_217_86o2 (d := d + 0) hI533 (by omega) (by omega)) ?_
              have hs537 : 0 ≤ σ531 86 36 ∧ σ531 86 36 ≤ 120 := hI533.1 86 36
              have hs538 : σ531 86 36 = ((σ424 86 36) + 1) := (congrFun (congrFun e532 86) 36).trans rfl
              have hs539 : 0 ≤ σ531 86 37 ∧ σ531 86 37 ≤ 120 := hI533.1 86 37
              have hs540 : σ531 86 37 = (σ424 86 37) := (congrFun (congrFun e532 86) 37).trans rfl
              have hs541 : 0 ≤ σ531 86 39 ∧ σ531 86 39 ≤ 6 := hI533.1 86 39
              have hs542 : σ531 86 39 = (σ424 86 39) := (congrFun (congrFun e532 86) 39).trans rfl
              rintro _ _ ⟨σ543, rfl, hI544, hG545, v535, rfl, hv535, hp536⟩
              have hF546 : qFr [(86, 36), (86, 38), (86, 39)] [] σ α σ543 α := qFr_t hF534 hG545 (by decide) (by decide)
              have hs547 : 0 ≤ σ543 86 36 ∧ σ543 86 36 ≤ 120 := hI544.1 86 36
              have hs548 : 0 ≤ σ543 86 37 ∧ σ543 86 37 ≤ 120 := hI544.1 86 37
              have hs549 : 0 ≤ σ543 86 39 ∧ σ543 86 39 ≤ 6 := hI544.1 86 39
              show qr_W (qe L xs vb) (d + 27) qx_e216 _ (59, _, [.int (qz v535)], qw σ543 α κ ρ, 0, 0)
              refine qr_istore_n _ 60 rfl (by decide) rfl rfl ?_
              refine qr_iload_n 61 rfl (qm_gk (qm_ge _ _ _) (by decide) (Or.inr rfl)) rfl ?_
              refine qr_if_eq 70 64 rfl rfl rfl (by omega) (fun h => False.elim (by omega)) (fun h550 => ?_)
              refine qr_iload_n 65 rfl (qm_gk (qm_gk g422 (by decide) (Or.inr rfl)) (by decide) (Or.inl (by decide))) rfl ?_
              refine qr_iload_n 66 rfl (qm_ge _ _ _) rfl ?_
              refine qr_iadd 67 rfl rfl ?_
              refine qy_can (fun v551 hv551 => ?_)
              refine qr_goto 73 rfl rfl ?_
              refine qr_istore_n _ 74 rfl (by decide) rfl rfl ?_
              refine qr_goto 5 rfl rfl ?_
              exact ih436 _ v551 σ543 (by omega) (qm_gk (qm_gk (qm_gk g421 (by decide) (Or.inl (by decide))) (by decide) (Or.inl (by decide))) (by decide) (Or.inr rfl)) (qm_ge _ _ _) (by omega) hI544 hF546 ((hG545.1 86 37 (by decide)).trans ((congrFun (congrFun e532 86) 37).trans rfl)) (by have hw0 : σ543 86 39 = (σ543 86 39) := rfl; have hw1 : σ543 86 36 = (σ543 86 36) := rfl; have hw2 : σ543 86 37 = (σ424 86 37) := (hG545.1 86 37 (by decide)).trans ((congrFun (congrFun e532 86) 37).trans rfl); omega) (by have hw0 : σ543 86 39 = (σ543 86 39) := rfl; have hw1 : σ543 86 36 = (σ543 86 36) := rfl; have hw2 : σ543 86 37 = (σ424 86 37) := (hG545.1 86 37 (by decide)).trans ((congrFun (congrFun e532 86) 37).trans rfl); omega) (by have hw0 : σ543 86 39 = (σ543 86 39) := rfl; have hw1 : σ543 86 36 = (σ543 86 36) := rfl; have hw2 : σ543 86 37 = (σ424 86 37) := (hG545.1 86 37 (by decide)).trans ((congrFun (congrFun e532 86) 37).trans rfl); omega) (by have hw0 : σ543 86 39 = (σ543 86 39) := rfl; have hw1 : σ543 86 36 = (σ543 86 36) := rfl; have hw2 : σ543 86 37 = (σ424 86 37) := (hG545.1 86 37 (by decide)).trans ((congrFun (congrFun e532 86) 37).trans rfl); omega) (by have hw0 : σ543 86 39 = (σ543 86 39) := rfl; have hw1 : σ543 86 36 = (σ543 86 36) := rfl; have hw2 : σ543 86 37 = (σ424 86 37) := (hG545.1 86 37 (by decide)).trans ((congrFun (congrFun e532 86) 37).trans rfl); omega)
  exact hL435 ((((120 - σ6 86 36).toNat : Int) + 1 : Int)).toNat _ v1 σ6 (by omega) rfl rfl (by omega) hI7 hF9 ((hG8.1 86 37 (by decide)).trans rfl) (by have hw0 : σ6 86 39 = (σ6 86 39) := rfl; have hw1 : σ6 86 36 = (σ6 86 36) := rfl; have hw2 : σ6 86 37 = (σ 86 37) := (hG8.1 86 37 (by decide)).trans rfl; omega) (by have hw0 : σ6 86 39 = (σ6 86 39) := rfl; have hw1 : σ6 86 36 = (σ6 86 36) := rfl; have hw2 : σ6 86 37 = (σ 86 37) := (hG8.1 86 37 (by decide)).trans rfl; omega) (by have hw0 : σ6 86 39 = (σ6 86 39) := rfl; have hw1 : σ6 86 36 = (σ6 86 36) := rfl; have hw2 : σ6 86 37 = (σ 86 37) := (hG8.1 86 37 (by decide)).trans rfl; omega) (by have hw0 : σ6 86 39 = (σ6 86 39) := rfl; have hw1 : σ6 86 36 = (σ6 86 36) := rfl; have hw2 : σ6 86 37 = (σ 86 37) := (hG8.1 86 37 (by decide)).trans rfl; omega) (by have hw0 : σ6 86 39 = (σ6 86 39) := rfl; have hw1 : σ6 86 36 = (σ6 86 36) := rfl; have hw2 : σ6 86 37 = (σ 86 37) := (hG8.1 86 37 (by decide)).trans rfl; omega)

set_option maxHeartbeats 4000000 in
set_option maxRecDepth 20000 in
/-- OneRoofModel.compared -/
theorem sf_215_86o2 {L : Nat} {xs : Nat → Int} {vb : Bool} {d : Nat} {σ α : Nat → Nat → Int} {κ : Nat → Option Nat} {ρ : Nat}  (hI : qI σ α κ ρ) (p0 : 2 ≤ σ 86 39) (p1 : σ 86 36 ≤ σ 86 37) : qm_T (qe L xs vb) (d + 29) 215 [.ref 86] (qw σ α κ ρ) (fun r w' => ∃ σ', w' = qw σ' α κ ρ ∧ qI σ' α κ ρ ∧ qFr [(86, 36), (86, 38), (86, 39)] [] σ α σ' α ∧ ∃ v : Int, r = some (.int (qz v)) ∧ ((-2147483648) ≤ v ∧ v ≤ 2147483647) ∧ σ 86 39 ≤ σ' 86 39 ∧ σ 86 36 ≤ σ' 86 36 ∧ σ' 86 36 ≤ σ' 86 37 ∧ σ' 86 37 = σ 86 37) := by
  refine qr_start (d := d + 28) qv_e215 (Nat.le_of_ble_eq_true rfl) ?_
  show qr_W (qe L xs vb) (d + 28) qx_e215 _ (0, [(0, .ref 86)], [], _, 0, 0)
  have hF0 := qFr_rf [(86, 36), (86, 38), (86, 39)] [] σ α
  have hz86_39 : 0 ≤ σ 86 39 ∧ σ 86 39 ≤ 6 := hI.1 86 39
  have hz86_36 : 0 ≤ σ 86 36 ∧ σ 86 36 ≤ 120 := hI.1 86 36
  have hz86_37 : 0 ≤ σ 86 37 ∧ σ 86 37 ≤ 120 := hI.1 86 37
  refine qr_aload_n 1 rfl rfl rfl ?_
  refine qr_callN 4 rfl rfl rfl (sf_216_86o2 (d := d + 0) hI (by omega) (by omega)) ?_
  have hs3 : 0 ≤ σ 86 36 ∧ σ 86 36 ≤ 120 := hI.1 86 36
  have hs4 : 0 ≤ σ 86 37 ∧ σ 86 37 ≤ 120 := hI.1 86 37
  have hs5 : 0 ≤ σ 86 39 ∧ σ 86 39 ≤ 6 := hI.1 86 39
  rintro _ _ ⟨σ6, rfl, hI7, hG8, v1, rfl, hv1, hp2⟩
  have hF9 : qFr [(86, 36), (86, 38), (86, 39)] [] σ α σ6 α := qFr_t hF0 hG8 (by decide) (by decide)
  have hs10 : 0 ≤ σ6 86 36 ∧ σ6 86 36 ≤ 120 := hI7.1 86 36
  have hs11 : 0 ≤ σ6 86 37 ∧ σ6 86 37 ≤ 120 := hI7.1 86 37
  have hs12 : 0 ≤ σ6 86 39 ∧ σ6 86 39 ≤ 6 := hI7.1 86 39
  show qr_W (qe L xs vb) (d + 28) qx_e215 _ (4, _, [.int (qz v1)], qw σ6 α κ ρ, 0, 0)
  refine qr_istore_n _ 5 rfl (by decide) rfl rfl ?_
  refine qr_aload_n 6 rfl rfl rfl ?_
  refine qr_callN 9 rfl rfl rfl (sf_219_86t (d := d + 27) hI7 ) ?_
  have hs15 : 0 ≤ σ6 86 36 ∧ σ6 86 36 ≤ 120 := hI7.1 86 36
  have hs16 : 0 ≤ σ6 86 37 ∧ σ6 86 37 ≤ 120 := hI7.1 86 37
  have hs17 : σ6 86 37 = (σ 86 37) := (hG8.1 86 37 (by decide)).trans rfl
  rintro _ _ ⟨rfl, v13, rfl, hv13, hp14⟩
  show qr_W (qe L xs vb) (d + 28) qx_e215 _ (9, _, [.int (qz v13)], qw σ6 α κ ρ, 0, 0)
  refine qr_istore_n _ 10 rfl (by decide) rfl rfl ?_
  refine qr_aload_n 11 rfl rfl rfl ?_
  refine qr_get 14 rfl rfl rfl (by decide) rfl ?_
  have hs18 : (-1) ≤ σ6 86 38 ∧ σ6 86 38 ≤ 120 := hI7.1 86 38
  refine qr_if_ge 35 17 rfl rfl rfl (by omega) (fun h19 => ?_) (fun h19 => ?_)
  · skip
    refine qr_iload_n 36 rfl rfl rfl ?_
    refine qr_retI rfl rfl (by decide) (by decide) ?_
    have hw20 : σ6 86 36 = (σ6 86 36) := rfl
    have hw21 : σ6 86 37 = (σ 86 37) := (hG8.1 86 37 (by decide)).trans rfl
    have hw22 : σ6 86 39 = (σ6 86 39) := rfl
    exact ⟨_, rfl, hI7, hF9, v1, rfl, by omega, by omega⟩
  · skip
    refine qr_iload_n 18 rfl rfl rfl ?_
    refine qr_bipush 20 rfl (by decide) rfl ?_
    refine qr_icmp_eq 37 23 rfl rfl rfl (by omega) (by omega) (fun h23 => ?_) (fun h23 => ?_)
    · skip
      refine qr_aload_n 38 rfl rfl rfl ?_
      refine qr_dup 39 rfl rfl rfl ?_
      refine qr_get 42 rfl rfl rfl (by decide) rfl ?_
      refine qr_iconst 43 rfl rfl ?_
      refine qr_iadd 44 rfl rfl ?_
      refine qr_put 47 rfl (by decide) rfl (Nat.le_of_ble_eq_true rfl) (Nat.le_of_ble_eq_true rfl) (Or.inl rfl) (qr_fitI rfl _) rfl ?_
      refine qy_wS (qw_s σ6 86 36 ((σ6 86 36) + 1)) rfl (fun σ24 e25 => ?_)
      have hI26 : qI σ24 α κ ρ := by rw [e25]; exact qI_s hI7 86 36 rfl (show 0 ≤ ((σ6 86 36) + 1) ∧ ((σ6 86 36) + 1) ≤ 120 by omega)
      have hF27 : qFr [(86, 36), (86, 38), (86, 39)] [] σ α σ24 α := by rw [e25]; exact qFr_s hF9 86 36 _ (by decide)
      refine qr_aload_n 48 rfl rfl rfl ?_
      refine qr_callN 51 rfl rfl rfl (sf_216_86o2 (d := d + 0) hI26 (by omega) (by omega)) ?_
      have hs30 : 0 ≤ σ24 86 36 ∧ σ24 86 36 ≤ 120 := hI26.1 86 36
      have hs31 : σ24 86 36 = ((σ6 86 36) + 1) := (congrFun (congrFun e25 86) 36).trans rfl
      have hs32 : 0 ≤ σ24 86 37 ∧ σ24 86 37 ≤ 120 := hI26.1 86 37
      have hs33 : σ24 86 37 = (σ 86 37) := (congrFun (congrFun e25 86) 37).trans ((hG8.1 86 37 (by decide)).trans rfl)
      have hs34 : 0 ≤ σ24 86 39 ∧ σ24 86 39 ≤ 6 := hI26.1 86 39
      have hs35 : σ24 86 39 = (σ6 86 39) := (congrFun (congrFun e25 86) 39).trans rfl
      rintro _ _ ⟨σ36, rfl, hI37, hG38, v28, rfl, hv28, hp29⟩
      have hF39 : qFr [(86, 36), (86, 38), (86, 39)] [] σ α σ36 α := qFr_t hF27 hG38 (by decide) (by decide)
      have hs40 : 0 ≤ σ36 86 36 ∧ σ36 86 36 ≤ 120 := hI37.1 86 36
      have hs41 : 0 ≤ σ36 86 37 ∧ σ36 86 37 ≤ 120 := hI37.1 86 37
      have hs42 : 0 ≤ σ36 86 39 ∧ σ36 86 39 ≤ 6 := hI37.1 86 39
      show qr_W (qe L xs vb) (d + 28) qx_e215 _ (51, _, [.int (qz v28)], qw σ36 α κ ρ, 0, 0)
      refine qr_istore_n _ 52 rfl (by decide) rfl rfl ?_
      refine qr_iload_n 53 rfl rfl rfl ?_
      refine qr_bipush 55 rfl (by decide) rfl ?_
      refine qr_icmp_ne 66 58 rfl rfl rfl (by omega) (by omega) (fun h => False.elim (by omega)) (fun h43 => ?_)
      refine qr_iload_n 59 rfl rfl rfl ?_
      refine qr_iload_n 60 rfl rfl rfl ?_
      refine qr_icmp_ge 89 63 rfl rfl rfl (by omega) (by omega) (fun h44 => ?_) (fun h44 => ?_)
      · skip
        refine qr_iconst 90 rfl rfl ?_
        refine qr_retI rfl rfl (by decide) (by decide) ?_
        have hw45 : σ36 86 36 = (σ36 86 36) := rfl
        have hw46 : σ36 86 37 = (σ 86 37) := (hG38.1 86 37 (by decide)).trans ((congrFun (congrFun e25 86) 37).trans ((hG8.1 86 37 (by decide)).trans rfl))
        have hw47 : σ36 86 39 = (σ36 86 39) := rfl
        exact ⟨_, rfl, hI37, hF39, 0, rfl, by omega, by omega⟩
      · skip
        refine qr_goto 85 rfl rfl ?_
        refine qr_iconst 86 rfl rfl ?_
        refine qr_goto 90 rfl rfl ?_
        refine qr_retI rfl rfl (by decide) (by decide) ?_
        have hw48 : σ36 86 36 = (σ36 86 36) := rfl
        have hw49 : σ36 86 37 = (σ 86 37) := (hG38.1 86 37 (by decide)).trans ((congrFun (congrFun e25 86) 37).trans ((hG8.1 86 37 (by decide)).trans rfl))
        have hw50 : σ36 86 39 = (σ36 86 39) := rfl
        exact ⟨_, rfl, hI37, hF39, 1, rfl, by omega, by omega⟩
    · skip
      refine qr_iload_n 24 rfl rfl rfl ?_
      refine qr_bipush 26 rfl (by decide) rfl ?_
      refine qr_icmp_eq 37 29 rfl rfl rfl (by omega) (by omega) (fun h51 => ?_) (fun h51 => ?_)
      · skip
        refine qr_aload_n 38 rfl rfl rfl ?_
        refine qr_dup 39 rfl rfl rfl ?_
        refine qr_get 42 rfl rfl rfl (by decide) rfl ?_
        refine qr_iconst 43 rfl rfl ?_
        refine qr_iadd 44 rfl rfl ?_
        refine qr_put 47 rfl (by decide) rfl (Nat.le_of_ble_eq_true rfl) (Nat.le_of_ble_eq_true rfl) (Or.inl rfl) (qr_fitI rfl _) rfl ?_
        refine qy_wS (qw_s σ6 86 36 ((σ6 86 36) + 1)) rfl (fun σ52 e53 => ?_)
        have hI54 : qI σ52 α κ ρ := by rw [e53]; exact qI_s hI7 86 36 rfl (show 0 ≤ ((σ6 86 36) + 1) ∧ ((σ6 86 36) + 1) ≤ 120 by omega)
        have hF55 : qFr [(86, 36), (86, 38), (86, 39)] [] σ α σ52 α := by rw [e53]; exact qFr_s hF9 86 36 _ (by decide)
        refine qr_aload_n 48 rfl rfl rfl ?_
        refine qr_callN 51 rfl rfl rfl (sf_216_86o2 (d := d + 0) hI54 (by omega) (by omega)) ?_
        have hs58 : 0 ≤ σ52 86 36 ∧ σ52 86 36 ≤ 120 := hI54.1 86 36
        have hs59 : σ52 86 36 = ((σ6 86 36) + 1) := (congrFun (congrFun e53 86) 36).trans rfl
        have hs60 : 0 ≤ σ52 86 37 ∧ σ52 86 37 ≤ 120 := hI54.1 86 37
        have hs61 : σ52 86 37 = (σ 86 37) := (congrFun (congrFun e53 86) 37).trans ((hG8.1 86 37 (by decide)).trans rfl)
        have hs62 : 0 ≤ σ52 86 39 ∧ σ52 86 39 ≤ 6 := hI54.1 86 39
        have hs63 : σ52 86 39 = (σ6 86 39) := (congrFun (congrFun e53 86) 39).trans rfl
        rintro _ _ ⟨σ64, rfl, hI65, hG66, v56, rfl, hv56, hp57⟩
        have hF67 : qFr [(86, 36), (86, 38), (86, 39)] [] σ α σ64 α := qFr_t hF55 hG66 (by decide) (by decide)
        have hs68 : 0 ≤ σ64 86 36 ∧ σ64 86 36 ≤ 120 := hI65.1 86 36
        have hs69 : 0 ≤ σ64 86 37 ∧ σ64 86 37 ≤ 120 := hI65.1 86 37
        have hs70 : 0 ≤ σ64 86 39 ∧ σ64 86 39 ≤ 6 := hI65.1 86 39
        show qr_W (qe L xs vb) (d + 28) qx_e215 _ (51, _, [.int (qz v56)], qw σ64 α κ ρ, 0, 0)
        refine qr_istore_n _ 52 rfl (by decide) rfl rfl ?_
        refine qr_iload_n 53 rfl rfl rfl ?_
        refine qr_bipush 55 rfl (by decide) rfl ?_
        refine qr_icmp_ne 66 58 rfl rfl rfl (by omega) (by omega) (fun h71 => ?_) (fun h => False.elim (by omega))
        refine qr_iload_n 67 rfl rfl rfl ?_
        refine qr_bipush 69 rfl (by decide) rfl ?_
        refine qr_icmp_ne 80 72 rfl rfl rfl (by omega) (by omega) (fun h => False.elim (by omega)) (fun h72 => ?_)
        refine qr_iload_n 73 rfl rfl rfl ?_
        refine qr_iload_n 74 rfl rfl rfl ?_
        refine qr_icmp_ne 89 77 rfl rfl rfl (by omega) (by omega) (fun h73 => ?_) (fun h73 => ?_)
        · skip
          refine qr_iconst 90 rfl rfl ?_
          refine qr_retI rfl rfl (by decide) (by decide) ?_
          have hw74 : σ64 86 36 = (σ64 86 36) := rfl
          have hw75 : σ64 86 37 = (σ 86 37) := (hG66.1 86 37 (by decide)).trans ((congrFun (congrFun e53 86) 37).trans ((hG8.1 86 37 (by decide)).trans rfl))
          have hw76 : σ64 86 39 = (σ64 86 39) := rfl
          exact ⟨_, rfl, hI65, hF67, 0, rfl, by omega, by omega⟩
        · skip
          refine qr_goto 85 rfl rfl ?_
          refine qr_iconst 86 rfl rfl ?_
          refine qr_goto 90 rfl rfl ?_
          refine qr_retI rfl rfl (by decide) (by decide) ?_
          have hw77 : σ64 86 36 = (σ64 86 36) := rfl
          have hw78 : σ64 86 37 = (σ 86 37) := (hG66.1 86 37 (by decide)).trans ((congrFun (congrFun e53 86) 37).trans ((hG8.1 86 37 (by decide)).trans rfl))
          have hw79 : σ64 86 39 = (σ64 86 39) := rfl
          exact ⟨_, rfl, hI65, hF67, 1, rfl, by omega, by omega⟩
      · skip
        refine qr_iload_n 30 rfl rfl rfl ?_
        refine qr_bipush 32 rfl (by decide) rfl ?_
        refine qr_icmp_eq 37 35 rfl rfl rfl (by omega) (by omega) (fun h80 => ?_) (fun h80 => ?_)
        · skip
          refine qr_aload_n 38 rfl rfl rfl ?_
          refine qr_dup 39 rfl rfl rfl ?_
          refine qr_get 42 rfl rfl rfl (by decide) rfl ?_
          refine qr_iconst 43 rfl rfl ?_
          refine qr_iadd 44 rfl rfl ?_
          refine qr_put 47 rfl (by decide) rfl (Nat.le_of_ble_eq_true rfl) (Nat.le_of_ble_eq_true rfl) (Or.inl rfl) (qr_fitI rfl _) rfl ?_
          refine qy_wS (qw_s σ6 86 36 ((σ6 86 36) + 1)) rfl (fun σ81 e82 => ?_)
          have hI83 : qI σ81 α κ ρ := by rw [e82]; exact qI_s hI7 86 36 rfl (show 0 ≤ ((σ6 86 36) + 1) ∧ ((σ6 86 36) + 1) ≤ 120 by omega)
          have hF84 : qFr [(86, 36), (86, 38), (86, 39)] [] σ α σ81 α := by rw [e82]; exact qFr_s hF9 86 36 _ (by decide)
          refine qr_aload_n 48 rfl rfl rfl ?_
          refine qr_callN 51 rfl rfl rfl (sf_216_86o2 (d := d + 0) hI83 (by omega) (by omega)) ?_
          have hs87 : 0 ≤ σ81 86 36 ∧ σ81 86 36 ≤ 120 := hI83.1 86 36
          have hs88 : σ81 86 36 = ((σ6 86 36) + 1) := (congrFun (congrFun e82 86) 36).trans rfl
          have hs89 : 0 ≤ σ81 86 37 ∧ σ81 86 37 ≤ 120 := hI83.1 86 37
          have hs90 : σ81 86 37 = (σ 86 37) := (congrFun (congrFun e82 86) 37).trans ((hG8.1 86 37 (by decide)).trans rfl)
          have hs91 : 0 ≤ σ81 86 39 ∧ σ81 86 39 ≤ 6 := hI83.1 86 39
          have hs92 : σ81 86 39 = (σ6 86 39) := (congrFun (congrFun e82 86) 39).trans rfl
          rintro _ _ ⟨σ93, rfl, hI94, hG95, v85, rfl, hv85, hp86⟩
          have hF96 : qFr [(86, 36), (86, 38), (86, 39)] [] σ α σ93 α := qFr_t hF84 hG95 (by decide) (by decide)
          have hs97 : 0 ≤ σ93 86 36 ∧ σ93 86 36 ≤ 120 := hI94.1 86 36
          have hs98 : 0 ≤ σ93 86 37 ∧ σ93 86 37 ≤ 120 := hI94.1 86 37
          have hs99 : 0 ≤ σ93 86 39 ∧ σ93 86 39 ≤ 6 := hI94.1 86 39
          show qr_W (qe L xs vb) (d + 28) qx_e215 _ (51, _, [.int (qz v85)], qw σ93 α κ ρ, 0, 0)
          refine qr_istore_n _ 52 rfl (by decide) rfl rfl ?_
          refine qr_iload_n 53 rfl rfl rfl ?_
          refine qr_bipush 55 rfl (by decide) rfl ?_
          refine qr_icmp_ne 66 58 rfl rfl rfl (by omega) (by omega) (fun h100 => ?_) (fun h => False.elim (by omega))
          refine qr_iload_n 67 rfl rfl rfl ?_
          refine qr_bipush 69 rfl (by decide) rfl ?_
          refine qr_icmp_ne 80 72 rfl rfl rfl (by omega) (by omega) (fun h101 => ?_) (fun h => False.elim (by omega))
          refine qr_iload_n 81 rfl rfl rfl ?_
          refine qr_iload_n 82 rfl rfl rfl ?_
          refine qr_icmp_le 89 85 rfl rfl rfl (by omega) (by omega) (fun h102 => ?_) (fun h102 => ?_)
          · skip
            refine qr_iconst 90 rfl rfl ?_
            refine qr_retI rfl rfl (by decide) (by decide) ?_
            have hw103 : σ93 86 36 = (σ93 86 36) := rfl
            have hw104 : σ93 86 37 = (σ 86 37) := (hG95.1 86 37 (by decide)).trans ((congrFun (congrFun e82 86) 37).trans ((hG8.1 86 37 (by decide)).trans rfl))
            have hw105 : σ93 86 39 = (σ93 86 39) := rfl
            exact ⟨_, rfl, hI94, hF96, 0, rfl, by omega, by omega⟩
          · skip
            refine qr_iconst 86 rfl rfl ?_
            refine qr_goto 90 rfl rfl ?_
            refine qr_retI rfl rfl (by decide) (by decide) ?_
            have hw106 : σ93 86 36 = (σ93 86 36) := rfl
            have hw107 : σ93 86 37 = (σ 86 37) := (hG95.1 86 37 (by decide)).trans ((congrFun (congrFun e82 86) 37).trans ((hG8.1 86 37 (by decide)).trans rfl))
            have hw108 : σ93 86 39 = (σ93 86 39) := rfl
            exact ⟨_, rfl, hI94, hF96, 1, rfl, by omega, by omega⟩
        · skip
          refine qr_iload_n 36 rfl rfl rfl ?_
          refine qr_retI rfl rfl (by decide) (by decide) ?_
          have hw109 : σ6 86 36 = (σ6 86 36) := rfl
          have hw110 : σ6 86 37 = (σ 86 37) := (hG8.1 86 37 (by decide)).trans rfl
          have hw111 : σ6 86 39 = (σ6 86 39) := rfl
          exact ⟨_, rfl, hI7, hF9, v1, rfl, by omega, by omega⟩

set_option maxHeartbeats 4000000 in
set_option maxRecDepth 20000 in
/-- OneRoofModel.both -/
theorem sf_214_86o2 {L : Nat} {xs : Nat → Int} {vb : Bool} {d : Nat} {σ α : Nat → Nat → Int} {κ : Nat → Option Nat} {ρ : Nat}  (hI : qI σ α κ ρ) (p0 : 2 ≤ σ 86 39) (p1 : σ 86 36 ≤ σ 86 37) : qm_T (qe L xs vb) (d + 30) 214 [.ref 86] (qw σ α κ ρ) (fun r w' => ∃ σ', w' = qw σ' α κ ρ ∧ qI σ' α κ ρ ∧ qFr [(86, 36), (86, 38), (86, 39)] [] σ α σ' α ∧ ∃ v : Int, r = some (.int (qz v)) ∧ ((-2147483648) ≤ v ∧ v ≤ 2147483647) ∧ σ 86 39 ≤ σ' 86 39 ∧ σ 86 36 ≤ σ' 86 36 ∧ σ' 86 36 ≤ σ' 86 37 ∧ σ' 86 37 = σ 86 37) := by
  refine qr_start (d := d + 29) qv_e214 (Nat.le_of_ble_eq_true rfl) ?_
  show qr_W (qe L xs vb) (d + 29) qx_e214 _ (0, [(0, .ref 86)], [], _, 0, 0)
  have hF0 := qFr_rf [(86, 36), (86, 38), (86, 39)] [] σ α
  have hz86_39 : 0 ≤ σ 86 39 ∧ σ 86 39 ≤ 6 := hI.1 86 39
  have hz86_36 : 0 ≤ σ 86 36 ∧ σ 86 36 ≤ 120 := hI.1 86 36
  have hz86_37 : 0 ≤ σ 86 37 ∧ σ 86 37 ≤ 120 := hI.1 86 37
  refine qr_aload_n 1 rfl rfl rfl ?_
  refine qr_callN 4 rfl rfl rfl (sf_215_86o2 (d := d + 0) hI (by omega) (by omega)) ?_
  have hs3 : 0 ≤ σ 86 36 ∧ σ 86 36 ≤ 120 := hI.1 86 36
  have hs4 : 0 ≤ σ 86 37 ∧ σ 86 37 ≤ 120 := hI.1 86 37
  have hs5 : 0 ≤ σ 86 39 ∧ σ 86 39 ≤ 6 := hI.1 86 39
  rintro _ _ ⟨σ6, rfl, hI7, hG8, v1, rfl, hv1, hp2⟩
  have hF9 : qFr [(86, 36), (86, 38), (86, 39)] [] σ α σ6 α := qFr_t hF0 hG8 (by decide) (by decide)
  have hs10 : 0 ≤ σ6 86 36 ∧ σ6 86 36 ≤ 120 := hI7.1 86 36
  have hs11 : 0 ≤ σ6 86 37 ∧ σ6 86 37 ≤ 120 := hI7.1 86 37
  have hs12 : 0 ≤ σ6 86 39 ∧ σ6 86 39 ≤ 6 := hI7.1 86 39
  show qr_W (qe L xs vb) (d + 29) qx_e214 _ (4, _, [.int (qz v1)], qw σ6 α κ ρ, 0, 0)
  refine qr_istore_n _ 5 rfl (by decide) rfl rfl ?_
  have hL139 : ∀ (n : Nat) (ls : qm_L) (u127 : Int) (σ128 : Nat → Nat → Int), ((120 - σ128 86 36).toNat : Int) < (n : Int) → qm_get ls 0 = some (.ref 86) → qm_get ls 1 = some (.int (qz u127)) → ((-2147483648) ≤ u127 ∧ u127 ≤ 2147483647) → qI σ128 α κ ρ → qFr [(86, 36), (86, 38), (86, 39)] [] σ α σ128 α → σ128 86 37 = (σ 86 37) → 2 ≤ σ128 86 39 → σ 86 39 ≤ σ128 86 39 → σ 86 36 ≤ σ128 86 36 → σ128 86 36 ≤ σ128 86 37 → σ128 86 37 = σ 86 37 → qr_W (qe L xs vb) (d + 29) qx_e214 (fun r w' => ∃ σ', w' = qw σ' α κ ρ ∧ qI σ' α κ ρ ∧ qFr [(86, 36), (86, 38), (86, 39)] [] σ α σ' α ∧ ∃ v : Int, r = some (.int (qz v)) ∧ ((-2147483648) ≤ v ∧ v ≤ 2147483647) ∧ σ 86 39 ≤ σ' 86 39 ∧ σ 86 36 ≤ σ' 86 36 ∧ σ' 86 36 ≤ σ' 86 37 ∧ σ' 86 37 = σ 86 37) (5, ls, [], qw σ128 α κ ρ, 0, 0) := by
    intro n
    induction n with
    | zero => intro ls u127 σ128 hm g125 g126 hf133 hI130 hF131 hk132 hx134 hx135 hx136 hx137 hx138; exact False.elim (by omega)
    | succ n ih140 =>
      intro ls u127 σ128 hm g125 g126 hf133 hI130 hF131 hk132 hx134 hx135 hx136 hx137 hx138
      have hs141 : 0 ≤ σ128 86 39 ∧ σ128 86 39 ≤ 6 := hI130.1 86 39
      have hs142 : 0 ≤ σ128 86 36 ∧ σ128 86 36 ≤ 120 := hI130.1 86 36
      have hs143 : 0 ≤ σ128 86 37 ∧ σ128 86 37 ≤ 120 := hI130.1 86 37
      refine qr_aload_n 6 rfl g125 rfl ?_
      refine qr_bipush 8 rfl (by decide) rfl ?_
      refine qr_callN 11 rfl rfl rfl (sf_221_86t (d := d + 27) hI130 (by omega) (by omega)) ?_
      have hs146 : 0 ≤ σ128 86 36 ∧ σ128 86 36 ≤ 120 := hI130.1 86 36
      have hs147 : 0 ≤ σ128 86 37 ∧ σ128 86 37 ≤ 120 := hI130.1 86 37
      rintro _ _ ⟨σ148, rfl, hI149, hG150, v144, rfl, hv144, hp145⟩
      have hF151 : qFr [(86, 36), (86, 38), (86, 39)] [] σ α σ148 α := qFr_t hF131 hG150 (by decide) (by decide)
      have hs152 : 0 ≤ σ148 86 36 ∧ σ148 86 36 ≤ 120 := hI149.1 86 36
      show qr_W (qe L xs vb) (d + 29) qx_e214 _ (11, _, [.int (qz v144)], qw σ148 α κ ρ, 0, 0)
      refine qr_if_eq 36 14 rfl rfl rfl (by omega) (fun h153 => ?_) (fun h153 => ?_)
      · skip
        refine qr_iload_n 37 rfl g126 rfl ?_
        refine qr_retI rfl rfl (by decide) (by decide) ?_
        have hw154 : σ148 86 36 = (σ148 86 36) := rfl
        have hw155 : σ148 86 37 = (σ128 86 37) := (hG150.1 86 37 (by decide)).trans rfl
        have hw156 : σ148 86 39 = (σ128 86 39) := (hG150.1 86 39 (by decide)).trans rfl
        exact ⟨_, rfl, hI149, hF151, u127, rfl, by omega, by omega⟩
      · skip
        refine qr_aload_n 15 rfl g125 rfl ?_
        refine qr_callN 18 rfl rfl rfl (sf_215_86o2 (d := d + 0) hI149 (by omega) (by omega)) ?_
        have hs159 : 0 ≤ σ148 86 36 ∧ σ148 86 36 ≤ 120 := hI149.1 86 36
        have hs160 : 0 ≤ σ148 86 37 ∧ σ148 86 37 ≤ 120 := hI149.1 86 37
        have hs161 : σ148 86 37 = (σ128 86 37) := (hG150.1 86 37 (by decide)).trans rfl
        have hs162 : 0 ≤ σ148 86 39 ∧ σ148 86 39 ≤ 6 := hI149.1 86 39
        have hs163 : σ148 86 39 = (σ128 86 39) := (hG150.1 86 39 (by decide)).trans rfl
        rintro _ _ ⟨σ164, rfl, hI165, hG166, v157, rfl, hv157, hp158⟩
        have hF167 : qFr [(86, 36), (86, 38), (86, 39)] [] σ α σ164 α := qFr_t hF151 hG166 (by decide) (by decide)
        have hs168 : 0 ≤ σ164 86 36 ∧ σ164 86 36 ≤ 120 := hI165.1 86 36
        have hs169 : 0 ≤ σ164 86 37 ∧ σ164 86 37 ≤ 120 := hI165.1 86 37
        have hs170 : 0 ≤ σ164 86 39 ∧ σ164 86 39 ≤ 6 := hI165.1 86 39
        show qr_W (qe L xs vb) (d + 29) qx_e214 _ (18, _, [.int (qz v157)], qw σ164 α κ ρ, 0, 0)
        refine qr_istore_n _ 19 rfl (by decide) rfl rfl ?_
        refine qr_iload_n 20 rfl (qm_gk g126 (by decide) (Or.inr rfl)) rfl ?_
        refine qr_if_eq 31 23 rfl rfl rfl (by omega) (fun h171 => ?_) (fun h171 => ?_)
        · skip
          refine qr_iconst 32 rfl rfl ?_
          refine qr_istore_n _ 33 rfl (by decide) rfl rfl ?_
          refine qr_goto 5 rfl rfl ?_
          exact ih140 _ 0 σ164 (by omega) (qm_gk (qm_gk g125 (by decide) (Or.inl (by decide))) (by decide) (Or.inr rfl)) (qm_ge _ _ _) (by omega) hI165 hF167 ((hG166.1 86 37 (by decide)).trans ((hG150.1 86 37 (by decide)).trans rfl)) (by have hw0 : σ164 86 39 = (σ164 86 39) := rfl; have hw1 : σ164 86 36 = (σ164 86 36) := rfl; have hw2 : σ164 86 37 = (σ128 86 37) := (hG166.1 86 37 (by decide)).trans ((hG150.1 86 37 (by decide)).trans rfl); omega) (by have hw0 : σ164 86 39 = (σ164 86 39) := rfl; have hw1 : σ164 86 36 = (σ164 86 36) := rfl; have hw2 : σ164 86 37 = (σ128 86 37) := (hG166.1 86 37 (by decide)).trans ((hG150.1 86 37 (by decide)).trans rfl); omega) (by have hw0 : σ164 86 39 = (σ164 86 39) := rfl; have hw1 : σ164 86 36 = (σ164 86 36) := rfl; have hw2 : σ164 86 37 = (σ128 86 37) := (hG166.1 86 37 (by decide)).trans ((hG150.1 86 37 (by decide)).trans rfl); omega) (by have hw0 : σ164 86 39 = (σ164 86 39) := rfl; have hw1 : σ164 86 36 = (σ164 86 36) := rfl; have hw2 : σ164 86 37 = (σ128 86 37) := (hG166.1 86 37 (by decide)).trans ((hG150.1 86 37 (by decide)).trans rfl); omega) (by have hw0 : σ164 86 39 = (σ164 86 39) := rfl; have hw1 : σ164 86 36 = (σ164 86 36) := rfl; have hw2 : σ164 86 37 = (σ128 86 37) := (hG166.1 86 37 (by decide)).trans ((hG150.1 86 37 (by decide)).trans rfl); omega)
        · skip
          refine qr_iload_n 24 rfl (qm_ge _ _ _) rfl ?_
          refine qr_if_eq 31 27 rfl rfl rfl (by omega) (fun h172 => ?_) (fun h172 => ?_)
          · skip
            refine qr_iconst 32 rfl rfl ?_
            refine qr_istore_n _ 33 rfl (by decide) rfl rfl ?_
            refine qr_goto 5 rfl rfl ?_
            exact ih140 _ 0 σ164 (by omega) (qm_gk (qm_gk g125 (by decide) (Or.inl (by decide))) (by decide) (Or.inr rfl)) (qm_ge _ _ _) (by omega) hI165 hF167 ((hG166.1 86 37 (by decide)).trans ((hG150.1 86 37 (by decide)).trans rfl)) (by have hw0 : σ164 86 39 = (σ164 86 39) := rfl; have hw1 : σ164 86 36 = (σ164 86 36) := rfl; have hw2 : σ164 86 37 = (σ128 86 37) := (hG166.1 86 37 (by decide)).trans ((hG150.1 86 37 (by decide)).trans rfl); omega) (by have hw0 : σ164 86 39 = (σ164 86 39) := rfl; have hw1 : σ164 86 36 = (σ164 86 36) := rfl; have hw2 : σ164 86 37 = (σ128 86 37) := (hG166.1 86 37 (by decide)).trans ((hG150.1 86 37 (by decide)).trans rfl); omega) (by have hw0 : σ164 86 39 = (σ164 86 39) := rfl; have hw1 : σ164 86 36 = (σ164 86 36) := rfl; have hw2 : σ164 86 37 = (σ128 86 37) := (hG166.1 86 37 (by decide)).trans ((hG150.1 86 37 (by decide)).trans rfl); omega) (by have hw0 : σ164 86 39 = (σ164 86 39) := rfl; have hw1 : σ164 86 36 = (σ164 86 36) := rfl; have hw2 : σ164 86 37 = (σ128 86 37) := (hG166.1 86 37 (by decide)).trans ((hG150.1 86 37 (by decide)).trans rfl); omega) (by have hw0 : σ164 86 39 = (σ164 86 39) := rfl; have hw1 : σ164 86 36 = (σ164 86 36) := rfl; have hw2 : σ164 86 37 = (σ128 86 37) := (hG166.1 86 37 (by decide)).trans ((hG150.1 86 37 (by decide)).trans rfl); omega)
          · skip
            refine qr_iconst 28 rfl rfl ?_
            refine qr_goto 32 rfl rfl ?_
            refine qr_istore_n _ 33 rfl (by decide) rfl rfl ?_
            refine qr_goto 5 rfl rfl ?_
            exact ih140 _ 1 σ164 (by omega) (qm_gk (qm_gk g125 (by decide) (Or.inl (by decide))) (by decide) (Or.inr rfl)) (qm_ge _ _ _) (by omega) hI165 hF167 ((hG166.1 86 37 (by decide)).trans ((hG150.1 86 37 (by decide)).trans rfl)) (by have hw0 : σ164 86 39 = (σ164 86 39) := rfl; have hw1 : σ164 86 36 = (σ164 86 36) := rfl; have hw2 : σ164 86 37 = (σ128 86 37) := (hG166.1 86 37 (by decide)).trans ((hG150.1 86 37 (by decide)).trans rfl); omega) (by have hw0 : σ164 86 39 = (σ164 86 39) := rfl; have hw1 : σ164 86 36 = (σ164 86 36) := rfl; have hw2 : σ164 86 37 = (σ128 86 37) := (hG166.1 86 37 (by decide)).trans ((hG150.1 86 37 (by decide)).trans rfl); omega) (by have hw0 : σ164 86 39 = (σ164 86 39) := rfl; have hw1 : σ164 86 36 = (σ164 86 36) := rfl; have hw2 : σ164 86 37 = (σ128 86 37) := (hG166.1 86 37 (by decide)).trans ((hG150.1 86 37 (by decide)).trans rfl); omega) (by have hw0 : σ164 86 39 = (σ164 86 39) := rfl; have hw1 : σ164 86 36 = (σ164 86 36) := rfl; have hw2 : σ164 86 37 = (σ128 86 37) := (hG166.1 86 37 (by decide)).trans ((hG150.1 86 37 (by decide)).trans rfl); omega) (by have hw0 : σ164 86 39 = (σ164 86 39) := rfl; have hw1 : σ164 86 36 = (σ164 86 36) := rfl; have hw2 : σ164 86 37 = (σ128 86 37) := (hG166.1 86 37 (by decide)).trans ((hG150.1 86 37 (by decide)).trans rfl); omega)
  exact hL139 ((((120 - σ6 86 36).toNat : Int) + 1 : Int)).toNat _ v1 σ6 (by omega) rfl rfl (by omega) hI7 hF9 ((hG8.1 86 37 (by decide)).trans rfl) (by have hw0 : σ6 86 39 = (σ6 86 39) := rfl; have hw1 : σ6 86 36 = (σ6 86 36) := rfl; have hw2 : σ6 86 37 = (σ 86 37) := (hG8.1 86 37 (by decide)).trans rfl; omega) (by have hw0 : σ6 86 39 = (σ6 86 39) := rfl; have hw1 : σ6 86 36 = (σ6 86 36) := rfl; have hw2 : σ6 86 37 = (σ 86 37) := (hG8.1 86 37 (by decide)).trans rfl; omega) (by have hw0 : σ6 86 39 = (σ6 86 39) := rfl; have hw1 : σ6 86 36 = (σ6 86 36) := rfl; have hw2 : σ6 86 37 = (σ 86 37) := (hG8.1 86 37 (by decide)).trans rfl; omega) (by have hw0 : σ6 86 39 = (σ6 86 39) := rfl; have hw1 : σ6 86 36 = (σ6 86 36) := rfl; have hw2 : σ6 86 37 = (σ 86 37) := (hG8.1 86 37 (by decide)).trans rfl; omega) (by have hw0 : σ6 86 39 = (σ6 86 39) := rfl; have hw1 : σ6 86 36 = (σ6 86 36) := rfl; have hw2 : σ6 86 37 = (σ 86 37) := (hG8.1 86 37 (by decide)).trans rfl; omega)

set_option maxHeartbeats 4000000 in
set_option maxRecDepth 20000 in
/-- OneRoofModel.either -/
theorem sf_213_86o2 {L : Nat} {xs : Nat → Int} {vb : Bool} {d : Nat} {σ α : Nat → Nat → Int} {κ : Nat → Option Nat} {ρ : Nat}  (hI : qI σ α κ ρ) (p0 : 2 ≤ σ 86 39) (p1 : σ 86 36 ≤ σ 86 37) : qm_T (qe L xs vb) (d + 31) 213 [.ref 86] (qw σ α κ ρ) (fun r w' => ∃ σ', w' = qw σ' α κ ρ ∧ qI σ' α κ ρ ∧ qFr [(86, 36), (86, 38), (86, 39)] [] σ α σ' α ∧ ∃ v : Int, r = some (.int (qz v)) ∧ ((-2147483648) ≤ v ∧ v ≤ 2147483647) ∧ σ 86 39 ≤ σ' 86 39 ∧ σ 86 36 ≤ σ' 86 36 ∧ σ' 86 36 ≤ σ' 86 37 ∧ σ' 86 37 = σ 86 37) := by
  refine qr_start (d := d + 30) qv_e213 (Nat.le_of_ble_eq_true rfl) ?_
  show qr_W (qe L xs vb) (d + 30) qx_e213 _ (0, [(0, .ref 86)], [], _, 0, 0)
  have hF0 := qFr_rf [(86, 36), (86, 38), (86, 39)] [] σ α
  have hz86_39 : 0 ≤ σ 86 39 ∧ σ 86 39 ≤ 6 := hI.1 86 39
  have hz86_36 : 0 ≤ σ 86 36 ∧ σ 86 36 ≤ 120 := hI.1 86 36
  have hz86_37 : 0 ≤ σ 86 37 ∧ σ 86 37 ≤ 120 := hI.1 86 37
  refine qr_aload_n 1 rfl rfl rfl ?_
  refine qr_callN 4 rfl rfl rfl (sf_214_86o2 (d := d + 0) hI (by omega) (by omega)) ?_
  have hs3 : 0 ≤ σ 86 36 ∧ σ 86 36 ≤ 120 := hI.1 86 36
  have hs4 : 0 ≤ σ 86 37 ∧ σ 86 37 ≤ 120 := hI.1 86 37
  have hs5 : 0 ≤ σ 86 39 ∧ σ 86 39 ≤ 6 := hI.1 86 39
  rintro _ _ ⟨σ6, rfl, hI7, hG8, v1, rfl, hv1, hp2⟩
  have hF9 : qFr [(86, 36), (86, 38), (86, 39)] [] σ α σ6 α := qFr_t hF0 hG8 (by decide) (by decide)
  have hs10 : 0 ≤ σ6 86 36 ∧ σ6 86 36 ≤ 120 := hI7.1 86 36
  have hs11 : 0 ≤ σ6 86 37 ∧ σ6 86 37 ≤ 120 := hI7.1 86 37
  have hs12 : 0 ≤ σ6 86 39 ∧ σ6 86 39 ≤ 6 := hI7.1 86 39
  show qr_W (qe L xs vb) (d + 30) qx_e213 _ (4, _, [.int (qz v1)], qw σ6 α κ ρ, 0, 0)
  refine qr_istore_n _ 5 rfl (by decide) rfl rfl ?_
  have hL139 : ∀ (n : Nat) (ls : qm_L) (u127 : Int) (σ128 : Nat → Nat → Int), ((120 - σ128 86 36).toNat : Int) < (n : Int) → qm_get ls 0 = some (.ref 86) → qm_get ls 1 = some (.int (qz u127)) → ((-2147483648) ≤ u127 ∧ u127 ≤ 2147483647) → qI σ128 α κ ρ → qFr [(86, 36), (86, 38), (86, 39)] [] σ α σ128 α → σ128 86 37 = (σ 86 37) → 2 ≤ σ128 86 39 → σ 86 39 ≤ σ128 86 39 → σ 86 36 ≤ σ128 86 36 → σ128 86 36 ≤ σ128 86 37 → σ128 86 37 = σ 86 37 → qr_W (qe L xs vb) (d + 30) qx_e213 (fun r w' => ∃ σ', w' = qw σ' α κ ρ ∧ qI σ' α κ ρ ∧ qFr [(86, 36), (86, 38), (86, 39)] [] σ α σ' α ∧ ∃ v : Int, r = some (.int (qz v)) ∧ ((-2147483648) ≤ v ∧ v ≤ 2147483647) ∧ σ 86 39 ≤ σ' 86 39 ∧ σ 86 36 ≤ σ' 86 36 ∧ σ' 86 36 ≤ σ' 86 37 ∧ σ' 86 37 = σ 86 37) (5, ls, [], qw σ128 α κ ρ, 0, 0) := by
    intro n
    induction n with
    | zero => intro ls u127 σ128 hm g125 g126 hf133 hI130 hF131 hk132 hx134 hx135 hx136 hx137 hx138; exact False.elim (by omega)
    | succ n ih140 =>
      intro ls u127 σ128 hm g125 g126 hf133 hI130 hF131 hk132 hx134 hx135 hx136 hx137 hx138
      have hs141 : 0 ≤ σ128 86 39 ∧ σ128 86 39 ≤ 6 := hI130.1 86 39
      have hs142 : 0 ≤ σ128 86 36 ∧ σ128 86 36 ≤ 120 := hI130.1 86 36
      have hs143 : 0 ≤ σ128 86 37 ∧ σ128 86 37 ≤ 120 := hI130.1 86 37
      refine qr_aload_n 6 rfl g125 rfl ?_
      refine qr_bipush 8 rfl (by decide) rfl ?_
      refine qr_callN 11 rfl rfl rfl (sf_221_86t (d := d + 28) hI130 (by omega) (by omega)) ?_
      have hs146 : 0 ≤ σ128 86 36 ∧ σ128 86 36 ≤ 120 := hI130.1 86 36
      have hs147 : 0 ≤ σ128 86 37 ∧ σ128 86 37 ≤ 120 := hI130.1 86 37
      rintro _ _ ⟨σ148, rfl, hI149, hG150, v144, rfl, hv144, hp145⟩
      have hF151 : qFr [(86, 36), (86, 38), (86, 39)] [] σ α σ148 α := qFr_t hF131 hG150 (by decide) (by decide)
      have hs152 : 0 ≤ σ148 86 36 ∧ σ148 86 36 ≤ 120 := hI149.1 86 36
      show qr_W (qe L xs vb) (d + 30) qx_e213 _ (11, _, [.int (qz v144)], qw σ148 α κ ρ, 0, 0)
      refine qr_if_eq 36 14 rfl rfl rfl (by omega) (fun h153 => ?_) (fun h153 => ?_)
      · skip
        refine qr_iload_n 37 rfl g126 rfl ?_
        refine qr_retI rfl rfl (by decide) (by decide) ?_
        have hw154 : σ148 86 36 = (σ148 86 36) := rfl
        have hw155 : σ148 86 37 = (σ128 86 37) := (hG150.1 86 37 (by decide)).trans rfl
        have hw156 : σ148 86 39 = (σ128 86 39) := (hG150.1 86 39 (by decide)).trans rfl
        exact ⟨_, rfl, hI149, hF151, u127, rfl, by omega, by omega⟩
      · skip
        refine qr_aload_n 15 rfl g125 rfl ?_
        refine qr_callN 18 rfl rfl rfl (sf_214_86o2 (d := d + 0) hI149 (by omega) (by omega)) ?_
        have hs159 : 0 ≤ σ148 86 36 ∧ σ148 86 36 ≤ 120 := hI149.1 86 36
        have hs160 : 0 ≤ σ148 86 37 ∧ σ148 86 37 ≤ 120 := hI149.1 86 37
        have hs161 : σ148 86 37 = (σ128 86 37) := (hG150.1 86 37 (by decide)).trans rfl
        have hs162 : 0 ≤ σ148 86 39 ∧ σ148 86 39 ≤ 6 := hI149.1 86 39
        have hs163 : σ148 86 39 = (σ128 86 39) := (hG150.1 86 39 (by decide)).trans rfl
        rintro _ _ ⟨σ164, rfl, hI165, hG166, v157, rfl, hv157, hp158⟩
        have hF167 : qFr [(86, 36), (86, 38), (86, 39)] [] σ α σ164 α := qFr_t hF151 hG166 (by decide) (by decide)
        have hs168 : 0 ≤ σ164 86 36 ∧ σ164 86 36 ≤ 120 := hI165.1 86 36
        have hs169 : 0 ≤ σ164 86 37 ∧ σ164 86 37 ≤ 120 := hI165.1 86 37
        have hs170 : 0 ≤ σ164 86 39 ∧ σ164 86 39 ≤ 6 := hI165.1 86 39
        show qr_W (qe L xs vb) (d + 30) qx_e213 _ (18, _, [.int (qz v157)], qw σ164 α κ ρ, 0, 0)
        refine qr_istore_n _ 19 rfl (by decide) rfl rfl ?_
        refine qr_iload_n 20 rfl (qm_gk g126 (by decide) (Or.inr rfl)) rfl ?_
        refine qr_if_ne 27 23 rfl rfl rfl (by omega) (fun h171 => ?_) (fun h171 => ?_)
        · skip
          refine qr_iconst 28 rfl rfl ?_
          refine qr_goto 32 rfl rfl ?_
          refine qr_istore_n _ 33 rfl (by decide) rfl rfl ?_
          refine qr_goto 5 rfl rfl ?_
          exact ih140 _ 1 σ164 (by omega) (qm_gk (qm_gk g125 (by decide) (Or.inl (by decide))) (by decide) (Or.inr rfl)) (qm_ge _ _ _) (by omega) hI165 hF167 ((hG166.1 86 37 (by decide)).trans ((hG150.1 86 37 (by decide)).trans rfl)) (by have hw0 : σ164 86 39 = (σ164 86 39) := rfl; have hw1 : σ164 86 36 = (σ164 86 36) := rfl; have hw2 : σ164 86 37 = (σ128 86 37) := (hG166.1 86 37 (by decide)).trans ((hG150.1 86 37 (by decide)).trans rfl); omega) (by have hw0 : σ164 86 39 = (σ164 86 39) := rfl; have hw1 : σ164 86 36 = (σ164 86 36) := rfl; have hw2 : σ164 86 37 = (σ128 86 37) := (hG166.1 86 37 (by decide)).trans ((hG150.1 86 37 (by decide)).trans rfl); omega) (by have hw0 : σ164 86 39 = (σ164 86 39) := rfl; have hw1 : σ164 86 36 = (σ164 86 36) := rfl; have hw2 : σ164 86 37 = (σ128 86 37) := (hG166.1 86 37 (by decide)).trans ((hG150.1 86 37 (by decide)).trans rfl); omega) (by have hw0 : σ164 86 39 = (σ164 86 39) := rfl; have hw1 : σ164 86 36 = (σ164 86 36) := rfl; have hw2 : σ164 86 37 = (σ128 86 37) := (hG166.1 86 37 (by decide)).trans ((hG150.1 86 37 (by decide)).trans rfl); omega) (by have hw0 : σ164 86 39 = (σ164 86 39) := rfl; have hw1 : σ164 86 36 = (σ164 86 36) := rfl; have hw2 : σ164 86 37 = (σ128 86 37) := (hG166.1 86 37 (by decide)).trans ((hG150.1 86 37 (by decide)).trans rfl); omega)
        · skip
          refine qr_iload_n 24 rfl (qm_ge _ _ _) rfl ?_
          refine qr_if_eq 31 27 rfl rfl rfl (by omega) (fun h172 => ?_) (fun h172 => ?_)
          · skip
            refine qr_iconst 32 rfl rfl ?_
            refine qr_istore_n _ 33 rfl (by decide) rfl rfl ?_
            refine qr_goto 5 rfl rfl ?_
            exact ih140 _ 0 σ164 (by omega) (qm_gk (qm_gk g125 (by decide) (Or.inl (by decide))) (by decide) (Or.inr rfl)) (qm_ge _ _ _) (by omega) hI165 hF167 ((hG166.1 86 37 (by decide)).trans ((hG150.1 86 37 (by decide)).trans rfl)) (by have hw0 : σ164 86 39 = (σ164 86 39) := rfl; have hw1 : σ164 86 36 = (σ164 86 36) := rfl; have hw2 : σ164 86 37 = (σ128 86 37) := (hG166.1 86 37 (by decide)).trans ((hG150.1 86 37 (by decide)).trans rfl); omega) (by have hw0 : σ164 86 39 = (σ164 86 39) := rfl; have hw1 : σ164 86 36 = (σ164 86 36) := rfl; have hw2 : σ164 86 37 = (σ128 86 37) := (hG166.1 86 37 (by decide)).trans ((hG150.1 86 37 (by decide)).trans rfl); omega) (by have hw0 : σ164 86 39 = (σ164 86 39) := rfl; have hw1 : σ164 86 36 = (σ164 86 36) := rfl; have hw2 : σ164 86 37 = (σ128 86 37) := (hG166.1 86 37 (by decide)).trans ((hG150.1 86 37 (by decide)).trans rfl); omega) (by have hw0 : σ164 86 39 = (σ164 86 39) := rfl; have hw1 : σ164 86 36 = (σ164 86 36) := rfl; have hw2 : σ164 86 37 = (σ128 86 37) := (hG166.1 86 37 (by decide)).trans ((hG150.1 86 37 (by decide)).trans rfl); omega) (by have hw0 : σ164 86 39 = (σ164 86 39) := rfl; have hw1 : σ164 86 36 = (σ164 86 36) := rfl; have hw2 : σ164 86 37 = (σ128 86 37) := (hG166.1 86 37 (by decide)).trans ((hG150.1 86 37 (by decide)).trans rfl); omega)
          · skip
            refine qr_iconst 28 rfl rfl ?_
            refine qr_goto 32 rfl rfl ?_
            refine qr_istore_n _ 33 rfl (by decide) rfl rfl ?_
            refine qr_goto 5 rfl rfl ?_
            exact ih140 _ 1 σ164 (by omega) (qm_gk (qm_gk g125 (by decide) (Or.inl (by decide))) (by decide) (Or.inr rfl)) (qm_ge _ _ _) (by omega) hI165 hF167 ((hG166.1 86 37 (by decide)).trans ((hG150.1 86 37 (by decide)).trans rfl)) (by have hw0 : σ164 86 39 = (σ164 86 39) := rfl; have hw1 : σ164 86 36 = (σ164 86 36) := rfl; have hw2 : σ164 86 37 = (σ128 86 37) := (hG166.1 86 37 (by decide)).trans ((hG150.1 86 37 (by decide)).trans rfl); omega) (by have hw0 : σ164 86 39 = (σ164 86 39) := rfl; have hw1 : σ164 86 36 = (σ164 86 36) := rfl; have hw2 : σ164 86 37 = (σ128 86 37) := (hG166.1 86 37 (by decide)).trans ((hG150.1 86 37 (by decide)).trans rfl); omega) (by have hw0 : σ164 86 39 = (σ164 86 39) := rfl; have hw1 : σ164 86 36 = (σ164 86 36) := rfl; have hw2 : σ164 86 37 = (σ128 86 37) := (hG166.1 86 37 (by decide)).trans ((hG150.1 86 37 (by decide)).trans rfl); omega) (by have hw0 : σ164 86 39 = (σ164 86 39) := rfl; have hw1 : σ164 86 36 = (σ164 86 36) := rfl; have hw2 : σ164 86 37 = (σ128 86 37) := (hG166.1 86 37 (by decide)).trans ((hG150.1 86 37 (by decide)).trans rfl); omega) (by have hw0 : σ164 86 39 = (σ164 86 39) := rfl; have hw1 : σ164 86 36 = (σ164 86 36) := rfl; have hw2 : σ164 86 37 = (σ128 86 37) := (hG166.1 86 37 (by decide)).trans ((hG150.1 86 37 (by decide)).trans rfl); omega)
  exact hL139 ((((120 - σ6 86 36).toNat : Int) + 1 : Int)).toNat _ v1 σ6 (by omega) rfl rfl (by omega) hI7 hF9 ((hG8.1 86 37 (by decide)).trans rfl) (by have hw0 : σ6 86 39 = (σ6 86 39) := rfl; have hw1 : σ6 86 36 = (σ6 86 36) := rfl; have hw2 : σ6 86 37 = (σ 86 37) := (hG8.1 86 37 (by decide)).trans rfl; omega) (by have hw0 : σ6 86 39 = (σ6 86 39) := rfl; have hw1 : σ6 86 36 = (σ6 86 36) := rfl; have hw2 : σ6 86 37 = (σ 86 37) := (hG8.1 86 37 (by decide)).trans rfl; omega) (by have hw0 : σ6 86 39 = (σ6 86 39) := rfl; have hw1 : σ6 86 36 = (σ6 86 36) := rfl; have hw2 : σ6 86 37 = (σ 86 37) := (hG8.1 86 37 (by decide)).trans rfl; omega) (by have hw0 : σ6 86 39 = (σ6 86 39) := rfl; have hw1 : σ6 86 36 = (σ6 86 36) := rfl; have hw2 : σ6 86 37 = (σ 86 37) := (hG8.1 86 37 (by decide)).trans rfl; omega) (by have hw0 : σ6 86 39 = (σ6 86 39) := rfl; have hw1 : σ6 86 36 = (σ6 86 36) := rfl; have hw2 : σ6 86 37 = (σ 86 37) := (hG8.1 86 37 (by decide)).trans rfl; omega)

set_option maxHeartbeats 4000000 in
set_option maxRecDepth 20000 in
/-- OneRoofModel.one -/
theorem sf_218_86o1 {L : Nat} {xs : Nat → Int} {vb : Bool} {d : Nat} {σ α : Nat → Nat → Int} {κ : Nat → Option Nat} {ρ : Nat}  (hI : qI σ α κ ρ) (p0 : 1 ≤ σ 86 39) (p1 : σ 86 36 ≤ σ 86 37) : qm_T (qe L xs vb) (d + 32) 218 [.ref 86] (qw σ α κ ρ) (fun r w' => ∃ σ', w' = qw σ' α κ ρ ∧ qI σ' α κ ρ ∧ qFr [(86, 36), (86, 38), (86, 39)] [] σ α σ' α ∧ ∃ v : Int, r = some (.int (qz v)) ∧ ((-2147483648) ≤ v ∧ v ≤ 2147483647) ∧ σ 86 39 ≤ σ' 86 39 ∧ σ 86 36 ≤ σ' 86 36 ∧ σ' 86 36 ≤ σ' 86 37 ∧ σ' 86 37 = σ 86 37) := by
  refine qr_start (d := d + 31) qv_e218 (Nat.le_of_ble_eq_true rfl) ?_
  show qr_W (qe L xs vb) (d + 31) qx_e218 _ (0, [(0, .ref 86)], [], _, 0, 0)
  have hF0 := qFr_rf [(86, 36), (86, 38), (86, 39)] [] σ α
  have hz86_39 : 0 ≤ σ 86 39 ∧ σ 86 39 ≤ 6 := hI.1 86 39
  have hz86_36 : 0 ≤ σ 86 36 ∧ σ 86 36 ≤ 120 := hI.1 86 36
  have hz86_37 : 0 ≤ σ 86 37 ∧ σ 86 37 ≤ 120 := hI.1 86 37
  refine qr_aload_n 1 rfl rfl rfl ?_
  refine qr_get 4 rfl rfl rfl (by decide) rfl ?_
  have hs1 : (-1) ≤ σ 86 38 ∧ σ 86 38 ≤ 120 := hI.1 86 38
  refine qr_if_lt 9 7 rfl rfl rfl (by omega) (fun h2 => ?_) (fun h2 => ?_)
  · skip
    refine qr_aload_n 10 rfl rfl rfl ?_
    refine qr_callN 13 rfl rfl rfl (sf_219_86t (d := d + 30) hI ) ?_
    have hs5 : 0 ≤ σ 86 36 ∧ σ 86 36 ≤ 120 := hI.1 86 36
    have hs6 : 0 ≤ σ 86 37 ∧ σ 86 37 ≤ 120 := hI.1 86 37
    rintro _ _ ⟨rfl, v3, rfl, hv3, hp4⟩
    show qr_W (qe L xs vb) (d + 31) qx_e218 _ (13, _, [.int (qz v3)], qw σ α κ ρ, 0, 0)
    refine qr_istore_n _ 14 rfl (by decide) rfl rfl ?_
    refine qr_iload_n 15 rfl rfl rfl ?_
    refine qr_bipush 17 rfl (by decide) rfl ?_
    refine qr_icmp_eq 32 20 rfl rfl rfl (by omega) (by omega) (fun h7 => ?_) (fun h7 => ?_)
    · skip
      refine qr_aload_n 33 rfl rfl rfl ?_
      refine qr_get 36 rfl rfl rfl (by decide) rfl ?_
      refine qr_bipush 38 rfl (by decide) rfl ?_
      refine qr_icmp_ne 46 41 rfl rfl rfl (by omega) (by omega) (fun h8 => ?_) (fun h8 => ?_)
      · skip
        refine qr_aload_n 47 rfl rfl rfl ?_
        refine qr_dup 48 rfl rfl rfl ?_
        refine qr_get 51 rfl rfl rfl (by decide) rfl ?_
        refine qr_iconst 52 rfl rfl ?_
        refine qr_iadd 53 rfl rfl ?_
        refine qr_put 56 rfl (by decide) rfl (Nat.le_of_ble_eq_true rfl) (Nat.le_of_ble_eq_true rfl) (Or.inl rfl) (qr_fitI rfl _) rfl ?_
        refine qy_wS (qw_s σ 86 39 ((σ 86 39) + 1)) rfl (fun σ9 e10 => ?_)
        have hI11 : qI σ9 α κ ρ := by rw [e10]; exact qI_s hI 86 39 rfl (show 0 ≤ ((σ 86 39) + 1) ∧ ((σ 86 39) + 1) ≤ 6 by omega)
        have hF12 : qFr [(86, 36), (86, 38), (86, 39)] [] σ α σ9 α := by rw [e10]; exact qFr_s hF0 86 39 _ (by decide)
        refine qr_aload_n 57 rfl rfl rfl ?_
        refine qr_dup 58 rfl rfl rfl ?_
        refine qr_get 61 rfl rfl rfl (by decide) rfl ?_
        refine qy_v (σ 86 36) ((congrFun (congrFun e10 86) 36).trans rfl) ?_
        refine qr_iconst 62 rfl rfl ?_
        refine qr_iadd 63 rfl rfl ?_
        refine qr_put 66 rfl (by decide) rfl (Nat.le_of_ble_eq_true rfl) (Nat.le_of_ble_eq_true rfl) (Or.inl rfl) (qr_fitI rfl _) rfl ?_
        refine qy_wS (qw_s σ9 86 36 ((σ 86 36) + 1)) rfl (fun σ13 e14 => ?_)
        have hI15 : qI σ13 α κ ρ := by rw [e14]; exact qI_s hI11 86 36 rfl (show 0 ≤ ((σ 86 36) + 1) ∧ ((σ 86 36) + 1) ≤ 120 by omega)
        have hF16 : qFr [(86, 36), (86, 38), (86, 39)] [] σ α σ13 α := by rw [e14]; exact qFr_s hF12 86 36 _ (by decide)
        refine qr_iload_n 67 rfl rfl rfl ?_
        refine qr_bipush 69 rfl (by decide) rfl ?_
        refine qr_icmp_ne 79 72 rfl rfl rfl (by omega) (by omega) (fun h17 => ?_) (fun h => False.elim (by omega))
        refine qr_aload_n 80 rfl rfl rfl ?_
        refine qr_callN 83 rfl rfl rfl (sf_218_86o2 (d := d + 5) hI15 (by omega) (by omega)) ?_
        have hs20 : 0 ≤ σ13 86 36 ∧ σ13 86 36 ≤ 120 := hI15.1 86 36
        have hs21 : σ13 86 36 = ((σ 86 36) + 1) := (congrFun (congrFun e14 86) 36).trans rfl
        have hs22 : 0 ≤ σ13 86 37 ∧ σ13 86 37 ≤ 120 := hI15.1 86 37
        have hs23 : σ13 86 37 = (σ 86 37) := (congrFun (congrFun e14 86) 37).trans ((congrFun (congrFun e10 86) 37).trans rfl)
        have hs24 : 0 ≤ σ13 86 39 ∧ σ13 86 39 ≤ 6 := hI15.1 86 39
        have hs25 : σ13 86 39 = ((σ 86 39) + 1) := (congrFun (congrFun e14 86) 39).trans ((congrFun (congrFun e10 86) 39).trans rfl)
        rintro _ _ ⟨σ26, rfl, hI27, hG28, v18, rfl, hv18, hp19⟩
        have hF29 : qFr [(86, 36), (86, 38), (86, 39)] [] σ α σ26 α := qFr_t hF16 hG28 (by decide) (by decide)
        have hs30 : 0 ≤ σ26 86 36 ∧ σ26 86 36 ≤ 120 := hI27.1 86 36
        have hs31 : 0 ≤ σ26 86 37 ∧ σ26 86 37 ≤ 120 := hI27.1 86 37
        have hs32 : 0 ≤ σ26 86 39 ∧ σ26 86 39 ≤ 6 := hI27.1 86 39
        show qr_W (qe L xs vb) (d + 31) qx_e218 _ (83, _, [.int (qz v18)], qw σ26 α κ ρ, 0, 0)
        refine qr_istore_n _ 84 rfl (by decide) rfl rfl ?_
        refine qr_iload_n 85 rfl rfl rfl ?_
        refine qr_bipush 87 rfl (by decide) rfl ?_
        refine qr_icmp_ne 104 90 rfl rfl rfl (by omega) (by omega) (fun h33 => ?_) (fun h => False.elim (by omega))
        refine qr_aload_n 105 rfl rfl rfl ?_
        refine qr_dup 106 rfl rfl rfl ?_
        refine qr_get 109 rfl rfl rfl (by decide) rfl ?_
        refine qr_iconst 110 rfl rfl ?_
        refine qr_isub 111 rfl rfl ?_
        refine qr_put 114 rfl (by decide) rfl (Nat.le_of_ble_eq_true rfl) (Nat.le_of_ble_eq_true rfl) (Or.inl rfl) (qr_fitI rfl _) rfl ?_
        refine qy_wS (qw_s σ26 86 39 ((σ26 86 39) - 1)) rfl (fun σ34 e35 => ?_)
        have hI36 : qI σ34 α κ ρ := by rw [e35]; exact qI_s hI27 86 39 rfl (show 0 ≤ ((σ26 86 39) - 1) ∧ ((σ26 86 39) - 1) ≤ 6 by omega)
        have hF37 : qFr [(86, 36), (86, 38), (86, 39)] [] σ α σ34 α := by rw [e35]; exact qFr_s hF29 86 39 _ (by decide)
        refine qr_iload_n 115 rfl rfl rfl ?_
        refine qr_bipush 117 rfl (by decide) rfl ?_
        refine qr_icmp_ne 124 120 rfl rfl rfl (by omega) (by omega) (fun h38 => ?_) (fun h => False.elim (by omega))
        refine qr_iload_n 125 rfl rfl rfl ?_
        refine qr_bipush 127 rfl (by decide) rfl ?_
        refine qr_icmp_ne 135 130 rfl rfl rfl (by omega) (by omega) (fun h39 => ?_) (fun h => False.elim (by omega))
        refine qr_iload_n 136 rfl rfl rfl ?_
        refine qr_if_ne 143 139 rfl rfl rfl (by omega) (fun h40 => ?_) (fun h40 => ?_)
        · skip
          refine qr_iconst 144 rfl rfl ?_
          refine qr_retI rfl rfl (by decide) (by decide) ?_
          have hw41 : σ34 86 36 = (σ26 86 36) := (congrFun (congrFun e35 86) 36).trans rfl
          have hw42 : σ34 86 37 = (σ 86 37) := (congrFun (congrFun e35 86) 37).trans ((hG28.1 86 37 (by decide)).trans ((congrFun (congrFun e14 86) 37).trans ((congrFun (congrFun e10 86) 37).trans rfl)))
          have hw43 : σ34 86 39 = ((σ26 86 39) - 1) := (congrFun (congrFun e35 86) 39).trans rfl
          exact ⟨_, rfl, hI36, hF37, 0, rfl, by omega, by omega⟩
        · skip
          refine qr_iconst 140 rfl rfl ?_
          refine qr_goto 144 rfl rfl ?_
          as_aux_lemma =>
            refine qr_retI rfl rfl (by decide) (by decide) ?_
            have hw44 : σ34 86 36 = (σ26 86 36) := (congrFun (congrFun e35 86) 36).trans rfl
            have hw45 : σ34 86 37 = (σ 86 37) := (congrFun (congrFun e35 86) 37).trans ((hG28.1 86 37 (by decide)).trans ((congrFun (congrFun e14 86) 37).trans ((congrFun (congrFun e10 86) 37).trans rfl)))
            have hw46 : σ34 86 39 = ((σ26 86 39) - 1) := (congrFun (congrFun e35 86) 39).trans rfl
            exact ⟨_, rfl, hI36, hF37, 1, rfl, by omega, by omega⟩
      · skip
        refine qr_aload_n 42 rfl rfl rfl ?_
        refine qr_callN 45 rfl rfl rfl (sf_220_86 (d := d + 30) hI ) ?_
        rintro _ _ ⟨σ48, rfl, hI49, hG50, v47, rfl, hv47⟩
        have hF51 : qFr [(86, 36), (86, 38), (86, 39)] [] σ α σ48 α := qFr_t hF0 hG50 (by decide) (by decide)
        show qr_W (qe L xs vb) (d + 31) qx_e218 _ (45, _, [.int (qz v47)], qw σ48 α κ ρ, 0, 0)
        refine qr_retI rfl rfl (by decide) (by decide) ?_
        have hw52 : σ48 86 36 = (σ 86 36) := (hG50.1 86 36 (by decide)).trans rfl
        have hw53 : σ48 86 37 = (σ 86 37) := (hG50.1 86 37 (by decide)).trans rfl
        have hw54 : σ48 86 39 = (σ 86 39) := (hG50.1 86 39 (by decide)).trans rfl
        exact ⟨_, rfl, hI49, hF51, v47, rfl, by omega, by omega⟩
    · skip
      refine qr_iload_n 21 rfl rfl rfl ?_
      refine qr_bipush 23 rfl (by decide) rfl ?_
      refine qr_icmp_eq 32 26 rfl rfl rfl (by omega) (by omega) (fun h55 => ?_) (fun h55 => ?_)
      · skip
        refine qr_aload_n 33 rfl rfl rfl ?_
        refine qr_get 36 rfl rfl rfl (by decide) rfl ?_
        refine qr_bipush 38 rfl (by decide) rfl ?_
        refine qr_icmp_ne 46 41 rfl rfl rfl (by omega) (by omega) (fun h56 => ?_) (fun h56 => ?_)
        · skip
          refine qr_aload_n 47 rfl rfl rfl ?_
          refine qr_dup 48 rfl rfl rfl ?_
          refine qr_get 51 rfl rfl rfl (by decide) rfl ?_
          refine qr_iconst 52 rfl rfl ?_
          refine qr_iadd 53 rfl rfl ?_
          refine qr_put 56 rfl (by decide) rfl (Nat.le_of_ble_eq_true rfl) (Nat.le_of_ble_eq_true rfl) (Or.inl rfl) (qr_fitI rfl _) rfl ?_
          refine qy_wS (qw_s σ 86 39 ((σ 86 39) + 1)) rfl (fun σ57 e58 => ?_)
          have hI59 : qI σ57 α κ ρ := by rw [e58]; exact qI_s hI 86 39 rfl (show 0 ≤ ((σ 86 39) + 1) ∧ ((σ 86 39) + 1) ≤ 6 by omega)
          have hF60 : qFr [(86, 36), (86, 38), (86, 39)] [] σ α σ57 α := by rw [e58]; exact qFr_s hF0 86 39 _ (by decide)
          refine qr_aload_n 57 rfl rfl rfl ?_
          refine qr_dup 58 rfl rfl rfl ?_
          refine qr_get 61 rfl rfl rfl (by decide) rfl ?_
          refine qy_v (σ 86 36) ((congrFun (congrFun e58 86) 36).trans rfl) ?_
          refine qr_iconst 62 rfl rfl ?_
          refine qr_iadd 63 rfl rfl ?_
          refine qr_put 66 rfl (by decide) rfl (Nat.le_of_ble_eq_true rfl) (Nat.le_of_ble_eq_true rfl) (Or.inl rfl) (qr_fitI rfl _) rfl ?_
          refine qy_wS (qw_s σ57 86 36 ((σ 86 36) + 1)) rfl (fun σ61 e62 => ?_)
          have hI63 : qI σ61 α κ ρ := by rw [e62]; exact qI_s hI59 86 36 rfl (show 0 ≤ ((σ 86 36) + 1) ∧ ((σ 86 36) + 1) ≤ 120 by omega)
          have hF64 : qFr [(86, 36), (86, 38), (86, 39)] [] σ α σ61 α := by rw [e62]; exact qFr_s hF60 86 36 _ (by decide)
          refine qr_iload_n 67 rfl rfl rfl ?_
          refine qr_bipush 69 rfl (by decide) rfl ?_
          refine qr_icmp_ne 79 72 rfl rfl rfl (by omega) (by omega) (fun h65 => ?_) (fun h => False.elim (by omega))
          refine qr_aload_n 80 rfl rfl rfl ?_
          refine qr_callN 83 rfl rfl rfl (sf_218_86o2 (d := d + 5) hI63 (by omega) (by omega)) ?_
          have hs68 : 0 ≤ σ61 86 36 ∧ σ61 86 36 ≤ 120 := hI63.1 86 36
          have hs69 : σ61 86 36 = ((σ 86 36) + 1) := (congrFun (congrFun e62 86) 36).trans rfl
          have hs70 : 0 ≤ σ61 86 37 ∧ σ61 86 37 ≤ 120 := hI63.1 86 37
          have hs71 : σ61 86 37 = (σ 86 37) := (congrFun (congrFun e62 86) 37).trans ((congrFun (congrFun e58 86) 37).trans rfl)
          have hs72 : 0 ≤ σ61 86 39 ∧ σ61 86 39 ≤ 6 := hI63.1 86 39
          have hs73 : σ61 86 39 = ((σ 86 39) + 1) := (congrFun (congrFun e62 86) 39).trans ((congrFun (congrFun e58 86) 39).trans rfl)
          rintro _ _ ⟨σ74, rfl, hI75, hG76, v66, rfl, hv66, hp67⟩
          have hF77 : qFr [(86, 36), (86, 38), (86, 39)] [] σ α σ74 α := qFr_t hF64 hG76 (by decide) (by decide)
          have hs78 : 0 ≤ σ74 86 36 ∧ σ74 86 36 ≤ 120 := hI75.1 86 36
          have hs79 : 0 ≤ σ74 86 37 ∧ σ74 86 37 ≤ 120 := hI75.1 86 37
          have hs80 : 0 ≤ σ74 86 39 ∧ σ74 86 39 ≤ 6 := hI75.1 86 39
          show qr_W (qe L xs vb) (d + 31) qx_e218 _ (83, _, [.int (qz v66)], qw σ74 α κ ρ, 0, 0)
          refine qr_istore_n _ 84 rfl (by decide) rfl rfl ?_
          refine qr_iload_n 85 rfl rfl rfl ?_
          refine qr_bipush 87 rfl (by decide) rfl ?_
          refine qr_icmp_ne 104 90 rfl rfl rfl (by omega) (by omega) (fun h81 => ?_) (fun h => False.elim (by omega))
          refine qr_aload_n 105 rfl rfl rfl ?_
          refine qr_dup 106 rfl rfl rfl ?_
          refine qr_get 109 rfl rfl rfl (by decide) rfl ?_
          refine qr_iconst 110 rfl rfl ?_
          refine qr_isub 111 rfl rfl ?_
          refine qr_put 114 rfl (by decide) rfl (Nat.le_of_ble_eq_true rfl) (Nat.le_of_ble_eq_true rfl) (Or.inl rfl) (qr_fitI rfl _) rfl ?_
          refine qy_wS (qw_s σ74 86 39 ((σ74 86 39) - 1)) rfl (fun σ82 e83 => ?_)
          have hI84 : qI σ82 α κ ρ := by rw [e83]; exact qI_s hI75 86 39 rfl (show 0 ≤ ((σ74 86 39) - 1) ∧ ((σ74 86 39) - 1) ≤ 6 by omega)
          have hF85 : qFr [(86, 36), (86, 38), (86, 39)] [] σ α σ82 α := by rw [e83]; exact qFr_s hF77 86 39 _ (by decide)
          refine qr_iload_n 115 rfl rfl rfl ?_
          refine qr_bipush 117 rfl (by decide) rfl ?_
          refine qr_icmp_ne 124 120 rfl rfl rfl (by omega) (by omega) (fun h86 => ?_) (fun h => False.elim (by omega))
          refine qr_iload_n 125 rfl rfl rfl ?_
          refine qr_bipush 127 rfl (by decide) rfl ?_
          refine qr_icmp_ne 135 130 rfl rfl rfl (by omega) (by omega) (fun h => False.elim (by omega)) (fun h87 => ?_)
          refine qr_iload_n 131 rfl rfl rfl ?_
          as_aux_lemma =>
            refine qr_ineg 132 rfl rfl ?_
            refine qy_can (fun v88 hv88 => ?_)
            refine qr_goto 144 rfl rfl ?_
            refine qr_retI rfl rfl (by decide) (by decide) ?_
            have hw89 : σ82 86 36 = (σ74 86 36) := (congrFun (congrFun e83 86) 36).trans rfl
            have hw90 : σ82 86 37 = (σ 86 37) := (congrFun (congrFun e83 86) 37).trans ((hG76.1 86 37 (by decide)).trans ((congrFun (congrFun e62 86) 37).trans ((congrFun (congrFun e58 86) 37).trans rfl)))
            have hw91 : σ82 86 39 = ((σ74 86 39) - 1) := (congrFun (congrFun e83 86) 39).trans rfl
            exact ⟨_, rfl, hI84, hF85, v88, rfl, by omega, by omega⟩
        · skip
          refine qr_aload_n 42 rfl rfl rfl ?_
          refine qr_callN 45 rfl rfl rfl (sf_220_86 (d := d + 30) hI ) ?_
          rintro _ _ ⟨σ93, rfl, hI94, hG95, v92, rfl, hv92⟩
          have hF96 : qFr [(86, 36), (86, 38), (86, 39)] [] σ α σ93 α := qFr_t hF0 hG95 (by decide) (by decide)
          show qr_W (qe L xs vb) (d + 31) qx_e218 _ (45, _, [.int (qz v92)], qw σ93 α κ ρ, 0, 0)
          refine qr_retI rfl rfl (by decide) (by decide) ?_
          have hw97 : σ93 86 36 = (σ 86 36) := (hG95.1 86 36 (by decide)).trans rfl
          have hw98 : σ93 86 37 = (σ 86 37) := (hG95.1 86 37 (by decide)).trans rfl
          have hw99 : σ93 86 39 = (σ 86 39) := (hG95.1 86 39 (by decide)).trans rfl
          exact ⟨_, rfl, hI94, hF96, v92, rfl, by omega, by omega⟩
      · skip
        refine qr_iload_n 27 rfl rfl rfl ?_
        refine qr_bipush 29 rfl (by decide) rfl ?_
        refine qr_icmp_ne 145 32 rfl rfl rfl (by omega) (by omega) (fun h100 => ?_) (fun h100 => ?_)
        · skip
          refine qr_iload_n 146 rfl rfl rfl ?_
          refine qr_callN 149 rfl rfl rfl (sf_222 (d := d + 30) hI (by omega)) ?_
          rintro _ _ ⟨rfl, v101, rfl, hv101⟩
          show qr_W (qe L xs vb) (d + 31) qx_e218 _ (149, _, [.int (qz v101)], qw σ α κ ρ, 0, 0)
          refine qr_istore_n _ 150 rfl (by decide) rfl rfl ?_
          refine qr_iload_n 151 rfl rfl rfl ?_
          refine qr_if_lt 171 154 rfl rfl rfl (by omega) (fun h102 => ?_) (fun h102 => ?_)
          · skip
            refine qr_iconst 172 rfl rfl ?_
            refine qr_istore_n _ 173 rfl (by decide) rfl rfl ?_
            refine qr_iconst 174 rfl rfl ?_
            refine qr_istore _ 176 rfl (by decide) rfl rfl ?_
            have hL372 : ∀ (n : Nat) (ls : qm_L) (u355 u357 : Int) (σ358 : Nat → Nat → Int), 4 - u357 < (n : Int) → qm_get ls 0 = some (.ref 86) → qm_get ls 3 = some (.int (qz u355)) → qm_get ls 4 = some (.int (qz u357)) → ((-2147483648) ≤ u355 ∧ u355 ≤ 2147483647) → (0 ≤ u357 ∧ u357 ≤ 4) → qI σ358 α κ ρ → qFr [(86, 36), (86, 38), (86, 39)] [] σ α σ358 α → σ358 86 37 = (σ 86 37) → σ358 86 38 = (σ 86 38) → σ358 86 39 = (σ 86 39) → 1 ≤ σ358 86 39 → σ 86 39 ≤ σ358 86 39 → σ 86 36 ≤ σ358 86 36 → σ358 86 36 ≤ σ358 86 37 → σ358 86 37 = σ 86 37 → qr_W (qe L xs vb) (d + 31) qx_e218 (fun r w' => ∃ σ', w' = qw σ' α κ ρ ∧ qI σ' α κ ρ ∧ qFr [(86, 36), (86, 38), (86, 39)] [] σ α σ' α ∧ ∃ v : Int, r = some (.int (qz v)) ∧ ((-2147483648) ≤ v ∧ v ≤ 2147483647) ∧ σ 86 39 ≤ σ' 86 39 ∧ σ 86 36 ≤ σ' 86 36 ∧ σ' 86 36 ≤ σ' 86 37 ∧ σ' 86 37 = σ 86 37) (176, ls, [], qw σ358 α κ ρ, 0, 0) := by
              intro n
              induction n with
              | zero => intro ls u355 u357 σ358 hm g353 g354 g356 hf365 hf366 hI360 hF361 hk362 hk363 hk364 hx367 hx368 hx369 hx370 hx371; exact False.elim (by omega)
              | succ n ih373 =>
                intro ls u355 u357 σ358 hm g353 g354 g356 hf365 hf366 hI360 hF361 hk362 hk363 hk364 hx367 hx368 hx369 hx370 hx371
                have hs374 : 0 ≤ σ358 86 39 ∧ σ358 86 39 ≤ 6 := hI360.1 86 39
                have hs375 : 0 ≤ σ358 86 36 ∧ σ358 86 36 ≤ 120 := hI360.1 86 36
                have hs376 : 0 ≤ σ358 86 37 ∧ σ358 86 37 ≤ 120 := hI360.1 86 37
                refine qr_iload 178 rfl g356 rfl ?_
                refine qr_iconst 179 rfl rfl ?_
                refine qr_icmp_ge 229 182 rfl rfl rfl (by omega) (by omega) (fun h377 => ?_) (fun h377 => ?_)
                · skip
                  refine qr_iload 231 rfl g356 rfl ?_
                  refine qr_if_ne 241 234 rfl rfl rfl (by omega) (fun h378 => ?_) (fun h => False.elim (by omega))
                  refine qr_iload_n 242 rfl g354 rfl ?_
                  refine qr_retI rfl rfl (by decide) (by decide) ?_
                  have hw379 : σ358 86 36 = (σ358 86 36) := rfl
                  have hw380 : σ358 86 37 = (σ358 86 37) := rfl
                  have hw381 : σ358 86 39 = (σ358 86 39) := rfl
                  exact ⟨_, rfl, hI360, hF361, u355, rfl, by omega, by omega⟩
                · skip
                  refine qr_aload_n 183 rfl g353 rfl ?_
                  refine qr_callN 186 rfl rfl rfl (sf_219_86t (d := d + 30) hI360 ) ?_
                  have hs384 : 0 ≤ σ358 86 36 ∧ σ358 86 36 ≤ 120 := hI360.1 86 36
                  have hs385 : 0 ≤ σ358 86 37 ∧ σ358 86 37 ≤ 120 := hI360.1 86 37
                  rintro _ _ ⟨rfl, v382, rfl, hv382, hp383⟩
                  show qr_W (qe L xs vb) (d + 31) qx_e218 _ (186, _, [.int (qz v382)], qw σ358 α κ ρ, 0, 0)
                  refine qr_bipush 188 rfl (by decide) rfl ?_
                  refine qr_icmp_lt 229 191 rfl rfl rfl (by omega) (by omega) (fun h386 => ?_) (fun h386 => ?_)
                  · skip
                    refine qr_iload 231 rfl g356 rfl ?_
                    refine qr_if_ne 241 234 rfl rfl rfl (by omega) (fun h387 => ?_) (fun h387 => ?_)
                    · skip
                      refine qr_iload_n 242 rfl g354 rfl ?_
                      refine qr_retI rfl rfl (by decide) (by decide) ?_
                      have hw388 : σ358 86 36 = (σ358 86 36) := rfl
                      have hw389 : σ358 86 37 = (σ358 86 37) := rfl
                      have hw390 : σ358 86 39 = (σ358 86 39) := rfl
                      exact ⟨_, rfl, hI360, hF361, u355, rfl, by omega, by omega⟩
                    · skip
                      refine qr_aload_n 235 rfl g353 rfl ?_
                      refine qr_callN 238 rfl rfl rfl (sf_220_86 (d := d + 30) hI360 ) ?_
                      rintro _ _ ⟨σ392, rfl, hI393, hG394, v391, rfl, hv391⟩
                      have hF395 : qFr [(86, 36), (86, 38), (86, 39)] [] σ α σ392 α := qFr_t hF361 hG394 (by decide) (by decide)
                      show qr_W (qe L xs vb) (d + 31) qx_e218 _ (238, _, [.int (qz v391)], qw σ392 α κ ρ, 0, 0)
                      refine qr_goto 242 rfl rfl ?_
                      refine qr_retI rfl rfl (by decide) (by decide) ?_
                      have hw396 : σ392 86 36 = (σ358 86 36) := (hG394.1 86 36 (by decide)).trans rfl
                      have hw397 : σ392 86 37 = (σ358 86 37) := (hG394.1 86 37 (by decide)).trans rfl
                      have hw398 : σ392 86 39 = (σ358 86 39) := (hG394.1 86 39 (by decide)).trans rfl
                      exact ⟨_, rfl, hI393, hF395, v391, rfl, by omega, by omega⟩
                  · skip
                    refine qr_aload_n 192 rfl g353 rfl ?_
                    refine qr_callN 195 rfl rfl rfl (sf_219_86t (d := d + 30) hI360 ) ?_
                    have hs401 : 0 ≤ σ358 86 36 ∧ σ358 86 36 ≤ 120 := hI360.1 86 36
                    have hs402 : 0 ≤ σ358 86 37 ∧ σ358 86 37 ≤ 120 := hI360.1 86 37
                    rintro _ _ ⟨rfl, v399, rfl, hv399, hp400⟩
                    show qr_W (qe L xs vb) (d + 31) qx_e218 _ (195, _, [.int (qz v399)], qw σ358 α κ ρ, 0, 0)
                    refine qr_bipush 197 rfl (by decide) rfl ?_
                    refine qr_icmp_gt 229 200 rfl rfl rfl (by omega) (by omega) (fun h403 => ?_) (fun h403 => ?_)
                    · skip
                      refine qr_iload 231 rfl g356 rfl ?_
                      refine qr_if_ne 241 234 rfl rfl rfl (by omega) (fun h404 => ?_) (fun h404 => ?_)
                      · skip
                        refine qr_iload_n 242 rfl g354 rfl ?_
                        refine qr_retI rfl rfl (by decide) (by decide) ?_
                        have hw405 : σ358 86 36 = (σ358 86 36) := rfl
                        have hw406 : σ358 86 37 = (σ358 86 37) := rfl
                        have hw407 : σ358 86 39 = (σ358 86 39) := rfl
                        exact ⟨_, rfl, hI360, hF361, u355, rfl, by omega, by omega⟩
                      · skip
                        refine qr_aload_n 235 rfl g353 rfl ?_
                        refine qr_callN 238 rfl rfl rfl (sf_220_86 (d := d + 30) hI360 ) ?_
                        rintro _ _ ⟨σ409, rfl, hI410, hG411, v408, rfl, hv408⟩
                        have hF412 : qFr [(86, 36), (86, 38), (86, 39)] [] σ α σ409 α := qFr_t hF361 hG411 (by decide) (by decide)
                        show qr_W (qe L xs vb) (d + 31) qx_e218 _ (238, _, [.int (qz v408)], qw σ409 α κ ρ, 0, 0)
                        refine qr_goto 242 rfl rfl ?_
                        refine qr_retI rfl rfl (by decide) (by decide) ?_
                        have hw413 : σ409 86 36 = (σ358 86 36) := (hG411.1 86 36 (by decide)).trans rfl
                        have hw414 : σ409 86 37 = (σ358 86 37) := (hG411.1 86 37 (by decide)).trans rfl
                        have hw415 : σ409 86 39 = (σ358 86 39) := (hG411.1 86 39 (by decide)).trans rfl
                        exact ⟨_, rfl, hI410, hF412, v408, rfl, by omega, by omega⟩
                    · skip
                      refine qr_bipush 202 rfl (by decide) rfl ?_
                      refine qr_iload_n 203 rfl g354 rfl ?_
                      refine qr_imul 204 rfl rfl ?_
                      refine qy_can (fun v416 hv416 => ?_)
                      refine qr_aload_n 205 rfl g353 rfl ?_
                      refine qr_callN 208 rfl rfl rfl (sf_219_86t (d := d + 30) hI360 ) ?_
                      have hs419 : 0 ≤ σ358 86 36 ∧ σ358 86 36 ≤ 120 := hI360.1 86 36
                      have hs420 : 0 ≤ σ358 86 37 ∧ σ358 86 37 ≤ 120 := hI360.1 86 37
                      rintro _ _ ⟨rfl, v417, rfl, hv417, hp418⟩
                      show qr_W (qe L xs vb) (d + 31) qx_e218 _ (208, _, [.int (qz v417), .int (qz v416)], qw σ358 α κ ρ, 0, 0)
                      refine qr_iadd 209 rfl rfl ?_
                      refine qy_can (fun v421 hv421 => ?_)
                      refine qr_bipush 211 rfl (by decide) rfl ?_
                      refine qr_isub 212 rfl rfl ?_
                      refine qy_can (fun v422 hv422 => ?_)
                      refine qr_istore_n _ 213 rfl (by decide) rfl rfl ?_
                      refine qr_iinc _ 216 rfl (qm_gk g356 (by decide) (Or.inl (by decide))) (by decide) rfl rfl ?_
                      refine qr_aload_n 217 rfl (qm_gk (qm_gk g353 (by decide) (Or.inl (by decide))) (by decide) (Or.inl (by decide))) rfl ?_
                      refine qr_dup 218 rfl rfl rfl ?_
                      refine qr_get 221 rfl rfl rfl (by decide) rfl ?_
                      refine qr_iconst 222 rfl rfl ?_
                      refine qr_iadd 223 rfl rfl ?_
                      refine qr_put 226 rfl (by decide) rfl (Nat.le_of_ble_eq_true rfl) (Nat.le_of_ble_eq_true rfl) (Or.inl rfl) (qr_fitI rfl _) rfl ?_
                      refine qy_wS (qw_s σ358 86 36 ((σ358 86 36) + 1)) rfl (fun σ423 e424 => ?_)
                      have hI425 : qI σ423 α κ ρ := by rw [e424]; exact qI_s hI360 86 36 rfl (show 0 ≤ ((σ358 86 36) + 1) ∧ ((σ358 86 36) + 1) ≤ 120 by omega)
                      have hF426 : qFr [(86, 36), (86, 38), (86, 39)] [] σ α σ423 α := by rw [e424]; exact qFr_s hF361 86 36 _ (by decide)
                      refine qr_goto 176 rfl rfl ?_
                      exact ih373 _ v422 (u357 + 1) σ423 (by omega) (qm_gk (qm_gk g353 (by decide) (Or.inl (by decide))) (by decide) (Or.inl (by decide))) (qm_gk (qm_ge _ _ _) (by decide) (Or.inr rfl)) (qm_ge _ _ _) (by omega) (by omega) hI425 hF426 ((congrFun (congrFun e424 86) 37).trans rfl) ((congrFun (congrFun e424 86) 38).trans ((hk363).trans rfl)) ((congrFun (congrFun e424 86) 39).trans rfl) (by have hw0 : σ423 86 39 = (σ358 86 39) := (congrFun (congrFun e424 86) 39).trans rfl; have hw1 : σ423 86 36 = ((σ358 86 36) + 1) := (congrFun (congrFun e424 86) 36).trans rfl; have hw2 : σ423 86 37 = (σ358 86 37) := (congrFun (congrFun e424 86) 37).trans rfl; omega) (by have hw0 : σ423 86 39 = (σ358 86 39) := (congrFun (congrFun e424 86) 39).trans rfl; have hw1 : σ423 86 36 = ((σ358 86 36) + 1) := (congrFun (congrFun e424 86) 36).trans rfl; have hw2 : σ423 86 37 = (σ358 86 37) := (congrFun (congrFun e424 86) 37).trans rfl; omega) (by have hw0 : σ423 86 39 = (σ358 86 39) := (congrFun (congrFun e424 86) 39).trans rfl; have hw1 : σ423 86 36 = ((σ358 86 36) + 1) := (congrFun (congrFun e424 86) 36).trans rfl; have hw2 : σ423 86 37 = (σ358 86 37) := (congrFun (congrFun e424 86) 37).trans rfl; omega) (by have hw0 : σ423 86 39 = (σ358 86 39) := (congrFun (congrFun e424 86) 39).trans rfl; have hw1 : σ423 86 36 = ((σ358 86 36) + 1) := (congrFun (congrFun e424 86) 36).trans rfl; have hw2 : σ423 86 37 = (σ358 86 37) := (congrFun (congrFun e424 86) 37).trans rfl; omega) (by have hw0 : σ423 86 39 = (σ358 86 39) := (congrFun (congrFun e424 86) 39).trans rfl; have hw1 : σ423 86 36 = ((σ358 86 36) + 1) := (congrFun (congrFun e424 86) 36).trans rfl; have hw2 : σ423 86 37 = (σ358 86 37) := (congrFun (congrFun e424 86) 37).trans rfl; omega)
            exact hL372 ((4 - 0 + 1 : Int)).toNat _ 0 0 σ (by omega) rfl rfl rfl (by omega) (by omega) hI hF0 (rfl) (rfl) (rfl) (by have hw0 : σ 86 39 = (σ 86 39) := rfl; have hw1 : σ 86 36 = (σ 86 36) := rfl; have hw2 : σ 86 37 = (σ 86 37) := rfl; omega) (by have hw0 : σ 86 39 = (σ 86 39) := rfl; have hw1 : σ 86 36 = (σ 86 36) := rfl; have hw2 : σ 86 37 = (σ 86 37) := rfl; omega) (by have hw0 : σ 86 39 = (σ 86 39) := rfl; have hw1 : σ 86 36 = (σ 86 36) := rfl; have hw2 : σ 86 37 = (σ 86 37) := rfl; omega) (by have hw0 : σ 86 39 = (σ 86 39) := rfl; have hw1 : σ 86 36 = (σ 86 36) := rfl; have hw2 : σ 86 37 = (σ 86 37) := rfl; omega) (by have hw0 : σ 86 39 = (σ 86 39) := rfl; have hw1 : σ 86 36 = (σ 86 36) := rfl; have hw2 : σ 86 37 = (σ 86 37) := rfl; omega)
          · skip
            refine qr_aload_n 155 rfl rfl rfl ?_
            refine qr_dup 156 rfl rfl rfl ?_
            refine qr_get 159 rfl rfl rfl (by decide) rfl ?_
            refine qr_iconst 160 rfl rfl ?_
            refine qr_iadd 161 rfl rfl ?_
            refine qr_put 164 rfl (by decide) rfl (Nat.le_of_ble_eq_true rfl) (Nat.le_of_ble_eq_true rfl) (Or.inl rfl) (qr_fitI rfl _) rfl ?_
            refine qy_wS (qw_s σ 86 36 ((σ 86 36) + 1)) rfl (fun σ427 e428 => ?_)
            have hI429 : qI σ427 α κ ρ := by rw [e428]; exact qI_s hI 86 36 rfl (show 0 ≤ ((σ 86 36) + 1) ∧ ((σ 86 36) + 1) ≤ 120 by omega)
            have hF430 : qFr [(86, 36), (86, 38), (86, 39)] [] σ α σ427 α := by rw [e428]; exact qFr_s hF0 86 36 _ (by decide)
            refine qr_aload_n 165 rfl rfl rfl ?_
            refine qr_get 168 rfl rfl rfl (by decide) rfl ?_
            refine qr_iload_n 169 rfl rfl rfl ?_
            refine qr_iaload 170 rfl rfl (by omega) (by decide) rfl ?_
            refine qr_topI (fun v431 hv431 => ?_)
            have hs432 : (-2147483648) ≤ v431 ∧ v431 ≤ 2147483647 := by rw [hv431]; exact hI429.2.1 109 _ (show _ < 9 by omega)
            refine qr_retI rfl rfl (by decide) (by decide) ?_
            have hw433 : σ427 86 36 = ((σ 86 36) + 1) := (congrFun (congrFun e428 86) 36).trans rfl
            have hw434 : σ427 86 37 = (σ 86 37) := (congrFun (congrFun e428 86) 37).trans rfl
            have hw435 : σ427 86 39 = (σ 86 39) := (congrFun (congrFun e428 86) 39).trans rfl
            exact ⟨_, rfl, hI429, hF430, v431, rfl, by omega, by omega⟩
        · skip
          refine qr_aload_n 33 rfl rfl rfl ?_
          refine qr_get 36 rfl rfl rfl (by decide) rfl ?_
          refine qr_bipush 38 rfl (by decide) rfl ?_
          refine qr_icmp_ne 46 41 rfl rfl rfl (by omega) (by omega) (fun h436 => ?_) (fun h436 => ?_)
          · skip
            refine qr_aload_n 47 rfl rfl rfl ?_
            refine qr_dup 48 rfl rfl rfl ?_
            refine qr_get 51 rfl rfl rfl (by decide) rfl ?_
            refine qr_iconst 52 rfl rfl ?_
            refine qr_iadd 53 rfl rfl ?_
            refine qr_put 56 rfl (by decide) rfl (Nat.le_of_ble_eq_true rfl) (Nat.le_of_ble_eq_true rfl) (Or.inl rfl) (qr_fitI rfl _) rfl ?_
            refine qy_wS (qw_s σ 86 39 ((σ 86 39) + 1)) rfl (fun σ437 e438 => ?_)
            have hI439 : qI σ437 α κ ρ := by rw [e438]; exact qI_s hI 86 39 rfl (show 0 ≤ ((σ 86 39) + 1) ∧ ((σ 86 39) + 1) ≤ 6 by omega)
            have hF440 : qFr [(86, 36), (86, 38), (86, 39)] [] σ α σ437 α := by rw [e438]; exact qFr_s hF0 86 39 _ (by decide)
            refine qr_aload_n 57 rfl rfl rfl ?_
            refine qr_dup 58 rfl rfl rfl ?_
            refine qr_get 61 rfl rfl rfl (by decide) rfl ?_
            refine qy_v (σ 86 36) ((congrFun (congrFun e438 86) 36).trans rfl) ?_
            refine qr_iconst 62 rfl rfl ?_
            refine qr_iadd 63 rfl rfl ?_
            refine qr_put 66 rfl (by decide) rfl (Nat.le_of_ble_eq_true rfl) (Nat.le_of_ble_eq_true rfl) (Or.inl rfl) (qr_fitI rfl _) rfl ?_
            refine qy_wS (qw_s σ437 86 36 ((σ 86 36) + 1)) rfl (fun σ441 e442 => ?_)
            have hI443 : qI σ441 α κ ρ := by rw [e442]; exact qI_s hI439 86 36 rfl (show 0 ≤ ((σ 86 36) + 1) ∧ ((σ 86 36) + 1) ≤ 120 by omega)
            have hF444 : qFr [(86, 36), (86, 38), (86, 39)] [] σ α σ441 α := by rw [e442]; exact qFr_s hF440 86 36 _ (by decide)
            refine qr_iload_n 67 rfl rfl rfl ?_
            refine qr_bipush 69 rfl (by decide) rfl ?_
            refine qr_icmp_ne 79 72 rfl rfl rfl (by omega) (by omega) (fun h => False.elim (by omega)) (fun h445 => ?_)
            refine qr_aload_n 73 rfl rfl rfl ?_
            refine qr_callN 76 rfl rfl rfl (sf_213_86o2 (d := d + 0) hI443 (by omega) (by omega)) ?_
            have hs448 : 0 ≤ σ441 86 36 ∧ σ441 86 36 ≤ 120 := hI443.1 86 36
            have hs449 : σ441 86 36 = ((σ 86 36) + 1) := (congrFun (congrFun e442 86) 36).trans rfl
            have hs450 : 0 ≤ σ441 86 37 ∧ σ441 86 37 ≤ 120 := hI443.1 86 37
            have hs451 : σ441 86 37 = (σ 86 37) := (congrFun (congrFun e442 86) 37).trans ((congrFun (congrFun e438 86) 37).trans rfl)
            have hs452 : 0 ≤ σ441 86 39 ∧ σ441 86 39 ≤ 6 := hI443.1 86 39
            have hs453 : σ441 86 39 = ((σ 86 39) + 1) := (congrFun (congrFun e442 86) 39).trans ((congrFun (congrFun e438 86) 39).trans rfl)
            rintro _ _ ⟨σ454, rfl, hI455, hG456, v446, rfl, hv446, hp447⟩
            have hF457 : qFr [(86, 36), (86, 38), (86, 39)] [] σ α σ454 α := qFr_t hF444 hG456 (by decide) (by decide)
            have hs458 : 0 ≤ σ454 86 36 ∧ σ454 86 36 ≤ 120 := hI455.1 86 36
            have hs459 : 0 ≤ σ454 86 37 ∧ σ454 86 37 ≤ 120 := hI455.1 86 37
            have hs460 : 0 ≤ σ454 86 39 ∧ σ454 86 39 ≤ 6 := hI455.1 86 39
            show qr_W (qe L xs vb) (d + 31) qx_e218 _ (76, _, [.int (qz v446)], qw σ454 α κ ρ, 0, 0)
            refine qr_goto 83 rfl rfl ?_
            refine qr_istore_n _ 84 rfl (by decide) rfl rfl ?_
            refine qr_iload_n 85 rfl rfl rfl ?_
            refine qr_bipush 87 rfl (by decide) rfl ?_
            refine qr_icmp_ne 104 90 rfl rfl rfl (by omega) (by omega) (fun h => False.elim (by omega)) (fun h461 => ?_)
            refine qr_aload_n 91 rfl rfl rfl ?_
            refine qr_bipush 93 rfl (by decide) rfl ?_
            refine qr_callN 96 rfl rfl rfl (sf_221_86t (d := d + 29) hI455 (by omega) (by omega)) ?_
            have hs464 : 0 ≤ σ454 86 36 ∧ σ454 86 36 ≤ 120 := hI455.1 86 36
            have hs465 : 0 ≤ σ454 86 37 ∧ σ454 86 37 ≤ 120 := hI455.1 86 37
            have hs466 : σ454 86 37 = (σ 86 37) := (hG456.1 86 37 (by decide)).trans ((congrFun (congrFun e442 86) 37).trans ((congrFun (congrFun e438 86) 37).trans rfl))
            rintro _ _ ⟨σ467, rfl, hI468, hG469, v462, rfl, hv462, hp463⟩
            have hF470 : qFr [(86, 36), (86, 38), (86, 39)] [] σ α σ467 α := qFr_t hF457 hG469 (by decide) (by decide)
            have hs471 : 0 ≤ σ467 86 36 ∧ σ467 86 36 ≤ 120 := hI468.1 86 36
            show qr_W (qe L xs vb) (d + 31) qx_e218 _ (96, _, [.int (qz v462)], qw σ467 α κ ρ, 0, 0)
            refine qr_if_ne 104 99 rfl rfl rfl (by omega) (fun h472 => ?_) (fun h472 => ?_)
            · skip
              refine qr_aload_n 105 rfl rfl rfl ?_
              refine qr_dup 106 rfl rfl rfl ?_
              refine qr_get 109 rfl rfl rfl (by decide) rfl ?_
              refine qy_v (σ454 86 39) ((hG469.1 86 39 (by decide)).trans rfl) ?_
              refine qr_iconst 110 rfl rfl ?_
              refine qr_isub 111 rfl rfl ?_
              as_aux_lemma =>
                refine qr_put 114 rfl (by decide) rfl (Nat.le_of_ble_eq_true rfl) (Nat.le_of_ble_eq_true rfl) (Or.inl rfl) (qr_fitI rfl _) rfl ?_
                refine qy_wS (qw_s σ467 86 39 ((σ454 86 39) - 1)) rfl (fun σ473 e474 => ?_)
                have hI475 : qI σ473 α κ ρ := by rw [e474]; exact qI_s hI468 86 39 rfl (show 0 ≤ ((σ454 86 39) - 1) ∧ ((σ454 86 39) - 1) ≤ 6 by omega)
                have hF476 : qFr [(86, 36), (86, 38), (86, 39)] [] σ α σ473 α := by rw [e474]; exact qFr_s hF470 86 39 _ (by decide)
                refine qr_iload_n 115 rfl rfl rfl ?_
                refine qr_bipush 117 rfl (by decide) rfl ?_
                refine qr_icmp_ne 124 120 rfl rfl rfl (by omega) (by omega) (fun h => False.elim (by omega)) (fun h477 => ?_)
                refine qr_iload_n 121 rfl rfl rfl ?_
                refine qr_goto 144 rfl rfl ?_
                refine qr_retI rfl rfl (by decide) (by decide) ?_
                have hw478 : σ473 86 36 = (σ467 86 36) := (congrFun (congrFun e474 86) 36).trans rfl
                have hw479 : σ473 86 37 = (σ 86 37) := (congrFun (congrFun e474 86) 37).trans ((hG469.1 86 37 (by decide)).trans ((hG456.1 86 37 (by decide)).trans ((congrFun (congrFun e442 86) 37).trans ((congrFun (congrFun e438 86) 37).trans rfl))))
                have hw480 : σ473 86 39 = ((σ454 86 39) - 1) := (congrFun (congrFun e474 86) 39).trans rfl
                exact ⟨_, rfl, hI475, hF476, v446, rfl, by omega, by omega⟩
            · skip
              refine qr_aload_n 100 rfl rfl rfl ?_
              refine qr_callN 103 rfl rfl rfl (sf_220_86 (d := d + 30) hI468 ) ?_
              rintro _ _ ⟨σ482, rfl, hI483, hG484, v481, rfl, hv481⟩
              have hF485 : qFr [(86, 36), (86, 38), (86, 39)] [] σ α σ482 α := qFr_t hF470 hG484 (by decide) (by decide)
              show qr_W (qe L xs vb) (d + 31) qx_e218 _ (103, _, [.int (qz v481)], qw σ482 α κ ρ, 0, 0)
              refine qr_retI rfl rfl (by decide) (by decide) ?_
              have hw486 : σ482 86 36 = (σ467 86 36) := (hG484.1 86 36 (by decide)).trans rfl
              have hw487 : σ482 86 37 = (σ 86 37) := (hG484.1 86 37 (by decide)).trans ((hG469.1 86 37 (by decide)).trans ((hG456.1 86 37 (by decide)).trans ((congrFun (congrFun e442 86) 37).trans ((congrFun (congrFun e438 86) 37).trans rfl))))
              have hw488 : σ482 86 39 = (σ454 86 39) := (hG484.1 86 39 (by decide)).trans ((hG469.1 86 39 (by decide)).trans rfl)
              exact ⟨_, rfl, hI483, hF485, v481, rfl, by omega, by omega⟩
          · skip
            refine qr_aload_n 42 rfl rfl rfl ?_
            refine qr_callN 45 rfl rfl rfl (sf_220_86 (d := d + 30) hI ) ?_
            rintro _ _ ⟨σ490, rfl, hI491, hG492, v489, rfl, hv489⟩
            have hF493 : qFr [(86, 36), (86, 38), (86, 39)] [] σ α σ490 α := qFr_t hF0 hG492 (by decide) (by decide)
            show qr_W (qe L xs vb) (d + 31) qx_e218 _ (45, _, [.int (qz v489)], qw σ490 α κ ρ, 0, 0)
            refine qr_retI rfl rfl (by decide) (by decide) ?_
            have hw494 : σ490 86 36 = (σ 86 36) := (hG492.1 86 36 (by decide)).trans rfl
            have hw495 : σ490 86 37 = (σ 86 37) := (hG492.1 86 37 (by decide)).trans rfl
            have hw496 : σ490 86 39 = (σ 86 39) := (hG492.1 86 39 (by decide)).trans rfl
            exact ⟨_, rfl, hI491, hF493, v489, rfl, by omega, by omega⟩
  · skip
    refine qr_iconst 8 rfl rfl ?_
    refine qr_retI rfl rfl (by decide) (by decide) ?_
    have hw497 : σ 86 36 = (σ 86 36) := rfl
    have hw498 : σ 86 37 = (σ 86 37) := rfl
    have hw499 : σ 86 39 = (σ 86 39) := rfl
    exact ⟨_, rfl, hI, hF0, 0, rfl, by omega, by omega⟩

set_option maxHeartbeats 4000000 in
set_option maxRecDepth 20000 in
/-- OneRoofModel.product -/
theorem sf_217_86o1 {L : Nat} {xs : Nat → Int} {vb : Bool} {d : Nat} {σ α : Nat → Nat → Int} {κ : Nat → Option Nat} {ρ : Nat}  (hI : qI σ α κ ρ) (p0 : 1 ≤ σ 86 39) (p1 : σ 86 36 ≤ σ 86 37) : qm_T (qe L xs vb) (d + 33) 217 [.ref 86] (qw σ α κ ρ) (fun r w' => ∃ σ', w' = qw σ' α κ ρ ∧ qI σ' α κ ρ ∧ qFr [(86, 36), (86, 38), (86, 39)] [] σ α σ' α ∧ ∃ v : Int, r = some (.int (qz v)) ∧ ((-2147483648) ≤ v ∧ v ≤ 2147483647) ∧ σ 86 39 ≤ σ' 86 39 ∧ σ 86 36 ≤ σ' 86 36 ∧ σ' 86 36 ≤ σ' 86 37 ∧ σ' 86 37 = σ 86 37) := by
  refine qr_start (d := d + 32) qv_e217 (Nat.le_of_ble_eq_true rfl) ?_
  show qr_W (qe L xs vb) (d + 32) qx_e217 _ (0, [(0, .ref 86)], [], _, 0, 0)
  have hF0 := qFr_rf [(86, 36), (86, 38), (86, 39)] [] σ α
  have hz86_39 : 0 ≤ σ 86 39 ∧ σ 86 39 ≤ 6 := hI.1 86 39
  have hz86_36 : 0 ≤ σ 86 36 ∧ σ 86 36 ≤ 120 := hI.1 86 36
  have hz86_37 : 0 ≤ σ 86 37 ∧ σ 86 37 ≤ 120 := hI.1 86 37
  refine qr_aload_n 1 rfl rfl rfl ?_
  refine qr_callN 4 rfl rfl rfl (sf_218_86o1 (d := d + 0) hI (by omega) (by omega)) ?_
  have hs3 : 0 ≤ σ 86 36 ∧ σ 86 36 ≤ 120 := hI.1 86 36
  have hs4 : 0 ≤ σ 86 37 ∧ σ 86 37 ≤ 120 := hI.1 86 37
  have hs5 : 0 ≤ σ 86 39 ∧ σ 86 39 ≤ 6 := hI.1 86 39
  rintro _ _ ⟨σ6, rfl, hI7, hG8, v1, rfl, hv1, hp2⟩
  have hF9 : qFr [(86, 36), (86, 38), (86, 39)] [] σ α σ6 α := qFr_t hF0 hG8 (by decide) (by decide)
  have hs10 : 0 ≤ σ6 86 36 ∧ σ6 86 36 ≤ 120 := hI7.1 86 36
  have hs11 : 0 ≤ σ6 86 37 ∧ σ6 86 37 ≤ 120 := hI7.1 86 37
  have hs12 : 0 ≤ σ6 86 39 ∧ σ6 86 39 ≤ 6 := hI7.1 86 39
  show qr_W (qe L xs vb) (d + 32) qx_e217 _ (4, _, [.int (qz v1)], qw σ6 α κ ρ, 0, 0)
  refine qr_istore_n _ 5 rfl (by decide) rfl rfl ?_
  refine qr_aload_n 6 rfl rfl rfl ?_
  refine qr_callN 9 rfl rfl rfl (sf_219_86t (d := d + 31) hI7 ) ?_
  have hs15 : 0 ≤ σ6 86 36 ∧ σ6 86 36 ≤ 120 := hI7.1 86 36
  have hs16 : 0 ≤ σ6 86 37 ∧ σ6 86 37 ≤ 120 := hI7.1 86 37
  have hs17 : σ6 86 37 = (σ 86 37) := (hG8.1 86 37 (by decide)).trans rfl
  rintro _ _ ⟨rfl, v13, rfl, hv13, hp14⟩
  show qr_W (qe L xs vb) (d + 32) qx_e217 _ (9, _, [.int (qz v13)], qw σ6 α κ ρ, 0, 0)
  refine qr_istore_n _ 10 rfl (by decide) rfl rfl ?_
  have hL384 : ∀ (n : Nat) (ls : qm_L) (u368 u370 : Int) (σ371 : Nat → Nat → Int), ((120 - σ371 86 36).toNat : Int) < (n : Int) → qm_get ls 0 = some (.ref 86) → qm_get ls 1 = some (.int (qz u368)) → qm_get ls 2 = some (.int (qz u370)) → ((-2147483648) ≤ u368 ∧ u368 ≤ 2147483647) → ((-2147483648) ≤ u370 ∧ u370 ≤ 2147483647) → qI σ371 α κ ρ → qFr [(86, 36), (86, 38), (86, 39)] [] σ α σ371 α → σ371 86 37 = (σ 86 37) → 1 ≤ σ371 86 39 → σ 86 39 ≤ σ371 86 39 → σ 86 36 ≤ σ371 86 36 → σ371 86 36 ≤ σ371 86 37 → σ371 86 37 = σ 86 37 → (u370 = 0 ∨ σ371 86 36 < σ371 86 37) → qr_W (qe L xs vb) (d + 32) qx_e217 (fun r w' => ∃ σ', w' = qw σ' α κ ρ ∧ qI σ' α κ ρ ∧ qFr [(86, 36), (86, 38), (86, 39)] [] σ α σ' α ∧ ∃ v : Int, r = some (.int (qz v)) ∧ ((-2147483648) ≤ v ∧ v ≤ 2147483647) ∧ σ 86 39 ≤ σ' 86 39 ∧ σ 86 36 ≤ σ' 86 36 ∧ σ' 86 36 ≤ σ' 86 37 ∧ σ' 86 37 = σ 86 37) (10, ls, [], qw σ371 α κ ρ, 0, 0) := by
    intro n
    induction n with
    | zero => intro ls u368 u370 σ371 hm g366 g367 g369 hf376 hf377 hI373 hF374 hk375 hx378 hx379 hx380 hx381 hx382 hx383; exact False.elim (by omega)
    | succ n ih385 =>
      intro ls u368 u370 σ371 hm g366 g367 g369 hf376 hf377 hI373 hF374 hk375 hx378 hx379 hx380 hx381 hx382 hx383
      have hs386 : 0 ≤ σ371 86 39 ∧ σ371 86 39 ≤ 6 := hI373.1 86 39
      have hs387 : 0 ≤ σ371 86 36 ∧ σ371 86 36 ≤ 120 := hI373.1 86 36
      have hs388 : 0 ≤ σ371 86 37 ∧ σ371 86 37 ≤ 120 := hI373.1 86 37
      refine qr_aload_n 11 rfl g366 rfl ?_
      refine qr_get 14 rfl rfl rfl (by decide) rfl ?_
      have hs389 : (-1) ≤ σ371 86 38 ∧ σ371 86 38 ≤ 120 := hI373.1 86 38
      refine qr_if_ge 94 17 rfl rfl rfl (by omega) (fun h390 => ?_) (fun h390 => ?_)
      · skip
        refine qr_iload_n 95 rfl g367 rfl ?_
        refine qr_retI rfl rfl (by decide) (by decide) ?_
        have hw391 : σ371 86 36 = (σ371 86 36) := rfl
        have hw392 : σ371 86 37 = (σ371 86 37) := rfl
        have hw393 : σ371 86 39 = (σ371 86 39) := rfl
        exact ⟨_, rfl, hI373, hF374, u368, rfl, by omega, by omega⟩
      · skip
        refine qr_iload_n 18 rfl g369 rfl ?_
        refine qr_bipush 20 rfl (by decide) rfl ?_
        refine qr_icmp_eq 35 23 rfl rfl rfl (by omega) (by omega) (fun h394 => ?_) (fun h394 => ?_)
        · skip
          refine qr_aload_n 36 rfl g366 rfl ?_
          refine qr_dup 37 rfl rfl rfl ?_
          refine qr_get 40 rfl rfl rfl (by decide) rfl ?_
          refine qr_iconst 41 rfl rfl ?_
          refine qr_iadd 42 rfl rfl ?_
          refine qr_put 45 rfl (by decide) rfl (Nat.le_of_ble_eq_true rfl) (Nat.le_of_ble_eq_true rfl) (Or.inl rfl) (qr_fitI rfl _) rfl ?_
          refine qy_wS (qw_s σ371 86 36 ((σ371 86 36) + 1)) rfl (fun σ395 e396 => ?_)
          have hI397 : qI σ395 α κ ρ := by rw [e396]; exact qI_s hI373 86 36 rfl (show 0 ≤ ((σ371 86 36) + 1) ∧ ((σ371 86 36) + 1) ≤ 120 by omega)
          have hF398 : qFr [(86, 36), (86, 38), (86, 39)] [] σ α σ395 α := by rw [e396]; exact qFr_s hF374 86 36 _ (by decide)
          refine qr_aload_n 46 rfl g366 rfl ?_
          refine qr_callN 49 rfl rfl rfl (sf_218_86o1 (d := d + 0) hI397 (by omega) (by omega)) ?_
          have hs401 : 0 ≤ σ395 86 36 ∧ σ395 86 36 ≤ 120 := hI397.1 86 36
          have hs402 : σ395 86 36 = ((σ371 86 36) + 1) := (congrFun (congrFun e396 86) 36).trans rfl
          have hs403 : 0 ≤ σ395 86 37 ∧ σ395 86 37 ≤ 120 := hI397.1 86 37
          have hs404 : σ395 86 37 = (σ371 86 37) := (congrFun (congrFun e396 86) 37).trans rfl
          have hs405 : 0 ≤ σ395 86 39 ∧ σ395 86 39 ≤ 6 := hI397.1 86 39
          have hs406 : σ395 86 39 = (σ371 86 39) := (congrFun (congrFun e396 86) 39).trans rfl
          rintro _ _ ⟨σ407, rfl, hI408, hG409, v399, rfl, hv399, hp400⟩
          have hF410 : qFr [(86, 36), (86, 38), (86, 39)] [] σ α σ407 α := qFr_t hF398 hG409 (by decide) (by decide)
          have hs411 : 0 ≤ σ407 86 36 ∧ σ407 86 36 ≤ 120 := hI408.1 86 36
          have hs412 : 0 ≤ σ407 86 37 ∧ σ407 86 37 ≤ 120 := hI408.1 86 37
          have hs413 : 0 ≤ σ407 86 39 ∧ σ407 86 39 ≤ 6 := hI408.1 86 39
          show qr_W (qe L xs vb) (d + 32) qx_e217 _ (49, _, [.int (qz v399)], qw σ407 α κ ρ, 0, 0)
          refine qr_istore_n _ 50 rfl (by decide) rfl rfl ?_
          refine qr_iload_n 51 rfl (qm_gk g369 (by decide) (Or.inr rfl)) rfl ?_
          refine qr_bipush 53 rfl (by decide) rfl ?_
          refine qr_icmp_ne 62 56 rfl rfl rfl (by omega) (by omega) (fun h => False.elim (by omega)) (fun h414 => ?_)
          refine qr_iload_n 57 rfl (qm_gk g367 (by decide) (Or.inl (by decide))) rfl ?_
          refine qr_iload_n 58 rfl (qm_ge _ _ _) rfl ?_
          refine qr_imul 59 rfl rfl ?_
          refine qy_can (fun v415 hv415 => ?_)
          refine qr_goto 85 rfl rfl ?_
          refine qr_istore_n _ 86 rfl (by decide) rfl rfl ?_
          refine qr_aload_n 87 rfl (qm_gk (qm_gk g366 (by decide) (Or.inl (by decide))) (by decide) (Or.inr rfl)) rfl ?_
          refine qr_callN 90 rfl rfl rfl (sf_219_86t (d := d + 31) hI408 ) ?_
          have hs418 : 0 ≤ σ407 86 36 ∧ σ407 86 36 ≤ 120 := hI408.1 86 36
          have hs419 : 0 ≤ σ407 86 37 ∧ σ407 86 37 ≤ 120 := hI408.1 86 37
          have hs420 : σ407 86 37 = (σ371 86 37) := (hG409.1 86 37 (by decide)).trans ((congrFun (congrFun e396 86) 37).trans rfl)
          rintro _ _ ⟨rfl, v416, rfl, hv416, hp417⟩
          show qr_W (qe L xs vb) (d + 32) qx_e217 _ (90, _, [.int (qz v416)], qw σ407 α κ ρ, 0, 0)
          refine qr_istore_n _ 91 rfl (by decide) rfl rfl ?_
          refine qr_goto 10 rfl rfl ?_
          exact ih385 _ v415 v416 σ407 (by omega) (qm_gk (qm_gk (qm_gk g366 (by decide) (Or.inl (by decide))) (by decide) (Or.inr rfl)) (by decide) (Or.inl (by decide))) (qm_gk (qm_ge _ _ _) (by decide) (Or.inr rfl)) (qm_ge _ _ _) (by omega) (by omega) hI408 hF410 ((hG409.1 86 37 (by decide)).trans ((congrFun (congrFun e396 86) 37).trans rfl)) (by have hw0 : σ407 86 39 = (σ407 86 39) := rfl; have hw1 : σ407 86 36 = (σ407 86 36) := rfl; have hw2 : σ407 86 37 = (σ371 86 37) := (hG409.1 86 37 (by decide)).trans ((congrFun (congrFun e396 86) 37).trans rfl); omega) (by have hw0 : σ407 86 39 = (σ407 86 39) := rfl; have hw1 : σ407 86 36 = (σ407 86 36) := rfl; have hw2 : σ407 86 37 = (σ371 86 37) := (hG409.1 86 37 (by decide)).trans ((congrFun (congrFun e396 86) 37).trans rfl); omega) (by have hw0 : σ407 86 39 = (σ407 86 39) := rfl; have hw1 : σ407 86 36 = (σ407 86 36) := rfl; have hw2 : σ407 86 37 = (σ371 86 37) := (hG409.1 86 37 (by decide)).trans ((congrFun (congrFun e396 86) 37).trans rfl); omega) (by have hw0 : σ407 86 39 = (σ407 86 39) := rfl; have hw1 : σ407 86 36 = (σ407 86 36) := rfl; have hw2 : σ407 86 37 = (σ371 86 37) := (hG409.1 86 37 (by decide)).trans ((congrFun (congrFun e396 86) 37).trans rfl); omega) (by have hw0 : σ407 86 39 = (σ407 86 39) := rfl; have hw1 : σ407 86 36 = (σ407 86 36) := rfl; have hw2 : σ407 86 37 = (σ371 86 37) := (hG409.1 86 37 (by decide)).trans ((congrFun (congrFun e396 86) 37).trans rfl); omega) (by have hw0 : σ407 86 39 = (σ407 86 39) := rfl; have hw1 : σ407 86 36 = (σ407 86 36) := rfl; have hw2 : σ407 86 37 = (σ371 86 37) := (hG409.1 86 37 (by decide)).trans ((congrFun (congrFun e396 86) 37).trans rfl); omega)
        · skip
          refine qr_iload_n 24 rfl g369 rfl ?_
          refine qr_bipush 26 rfl (by decide) rfl ?_
          refine qr_icmp_eq 35 29 rfl rfl rfl (by omega) (by omega) (fun h421 => ?_) (fun h421 => ?_)
          · skip
            refine qr_aload_n 36 rfl g366 rfl ?_
            refine qr_dup 37 rfl rfl rfl ?_
            refine qr_get 40 rfl rfl rfl (by decide) rfl ?_
            refine qr_iconst 41 rfl rfl ?_
            refine qr_iadd 42 rfl rfl ?_
            refine qr_put 45 rfl (by decide) rfl (Nat.le_of_ble_eq_true rfl) (Nat.le_of_ble_eq_true rfl) (Or.inl rfl) (qr_fitI rfl _) rfl ?_
            refine qy_wS (qw_s σ371 86 36 ((σ371 86 36) + 1)) rfl (fun σ422 e423 => ?_)
            have hI424 : qI σ422 α κ ρ := by rw [e423]; exact qI_s hI373 86 36 rfl (show 0 ≤ ((σ371 86 36) + 1) ∧ ((σ371 86 36) + 1) ≤ 120 by omega)
            have hF425 : qFr [(86, 36), (86, 38), (86, 39)] [] σ α σ422 α := by rw [e423]; exact qFr_s hF374 86 36 _ (by decide)
            refine qr_aload_n 46 rfl g366 rfl ?_
            refine qr_callN 49 rfl rfl rfl (sf_218_86o1 (d := d + 0) hI424 (by omega) (by omega)) ?_
            have hs428 : 0 ≤ σ422 86 36 ∧ σ422 86 36 ≤ 120 := hI424.1 86 36
            have hs429 : σ422 86 36 = ((σ371 86 36) + 1) := (congrFun (congrFun e423 86) 36).trans rfl
            have hs430 : 0 ≤ σ422 86 37 ∧ σ422 86 37 ≤ 120 := hI424.1 86 37
            have hs431 : σ422 86 37 = (σ371 86 37) := (congrFun (congrFun e423 86) 37).trans rfl
            have hs432 : 0 ≤ σ422 86 39 ∧ σ422 86 39 ≤ 6 := hI424.1 86 39
            have hs433 : σ422 86 39 = (σ371 86 39) := (congrFun (congrFun e423 86) 39).trans rfl
            rintro _ _ ⟨σ434, rfl, hI435, hG436, v426, rfl, hv426, hp427⟩
            have hF437 : qFr [(86, 36), (86, 38), (86, 39)] [] σ α σ434 α := qFr_t hF425 hG436 (by decide) (by decide)
            have hs438 : 0 ≤ σ434 86 36 ∧ σ434 86 36 ≤ 120 := hI435.1 86 36
            have hs439 : 0 ≤ σ434 86 37 ∧ σ434 86 37 ≤ 120 := hI435.1 86 37
            have hs440 : 0 ≤ σ434 86 39 ∧ σ434 86 39 ≤ 6 := hI435.1 86 39
            show qr_W (qe L xs vb) (d + 32) qx_e217 _ (49, _, [.int (qz v426)], qw σ434 α κ ρ, 0, 0)
            refine qr_istore_n _ 50 rfl (by decide) rfl rfl ?_
            refine qr_iload_n 51 rfl (qm_gk g369 (by decide) (Or.inr rfl)) rfl ?_
            refine qr_bipush 53 rfl (by decide) rfl ?_
            refine qr_icmp_ne 62 56 rfl rfl rfl (by omega) (by omega) (fun h441 => ?_) (fun h => False.elim (by omega))
            refine qr_iload_n 63 rfl (qm_ge _ _ _) rfl ?_
            have hJ446 : ∀ (ls : qm_L) (u444 : Int), qm_get ls 0 = some (.ref 86) → ((-2147483648) ≤ u444 ∧ u444 ≤ 2147483647) → qr_W (qe L xs vb) (d + 32) qx_e217 (fun r w' => ∃ σ', w' = qw σ' α κ ρ ∧ qI σ' α κ ρ ∧ qFr [(86, 36), (86, 38), (86, 39)] [] σ α σ' α ∧ ∃ v : Int, r = some (.int (qz v)) ∧ ((-2147483648) ≤ v ∧ v ≤ 2147483647) ∧ σ 86 39 ≤ σ' 86 39 ∧ σ 86 36 ≤ σ' 86 36 ∧ σ' 86 36 ≤ σ' 86 37 ∧ σ' 86 37 = σ 86 37) (85, ls, [.int (qz u444)], qw σ434 α κ ρ, 0, 0) := by
              intro ls u444 g443 hf445
              refine qr_istore_n _ 86 rfl (by decide) rfl rfl ?_
              refine qr_aload_n 87 rfl (qm_gk g443 (by decide) (Or.inr rfl)) rfl ?_
              refine qr_callN 90 rfl rfl rfl (sf_219_86t (d := d + 31) hI435 ) ?_
              have hs449 : 0 ≤ σ434 86 36 ∧ σ434 86 36 ≤ 120 := hI435.1 86 36
              have hs450 : 0 ≤ σ434 86 37 ∧ σ434 86 37 ≤ 120 := hI435.1 86 37
              have hs451 : σ434 86 37 = (σ371 86 37) := (hG436.1 86 37 (by decide)).trans ((congrFun (congrFun e423 86) 37).trans rfl)
              rintro _ _ ⟨rfl, v447, rfl, hv447, hp448⟩
              show qr_W (qe L xs vb) (d + 32) qx_e217 _ (90, _, [.int (qz v447)], qw σ434 α κ ρ, 0, 0)
              refine qr_istore_n _ 91 rfl (by decide) rfl rfl ?_
              refine qr_goto 10 rfl rfl ?_
              exact ih385 _ u444 v447 σ434 (by omega) (qm_gk (qm_gk g443 (by decide) (Or.inr rfl)) (by decide) (Or.inl (by decide))) (qm_gk (qm_ge _ _ _) (by decide) (Or.inr rfl)) (qm_ge _ _ _) (by omega) (by omega) hI435 hF437 ((hG436.1 86 37 (by decide)).trans ((congrFun (congrFun e423 86) 37).trans rfl)) (by have hw0 : σ434 86 39 = (σ434 86 39) := rfl; have hw1 : σ434 86 36 = (σ434 86 36) := rfl; have hw2 : σ434 86 37 = (σ371 86 37) := (hG436.1 86 37 (by decide)).trans ((congrFun (congrFun e423 86) 37).trans rfl); omega) (by have hw0 : σ434 86 39 = (σ434 86 39) := rfl; have hw1 : σ434 86 36 = (σ434 86 36) := rfl; have hw2 : σ434 86 37 = (σ371 86 37) := (hG436.1 86 37 (by decide)).trans ((congrFun (congrFun e423 86) 37).trans rfl); omega) (by have hw0 : σ434 86 39 = (σ434 86 39) := rfl; have hw1 : σ434 86 36 = (σ434 86 36) := rfl; have hw2 : σ434 86 37 = (σ371 86 37) := (hG436.1 86 37 (by decide)).trans ((congrFun (congrFun e423 86) 37).trans rfl); omega) (by have hw0 : σ434 86 39 = (σ434 86 39) := rfl; have hw1 : σ434 86 36 = (σ434 86 36) := rfl; have hw2 : σ434 86 37 = (σ371 86 37) := (hG436.1 86 37 (by decide)).trans ((congrFun (congrFun e423 86) 37).trans rfl); omega) (by have hw0 : σ434 86 39 = (σ434 86 39) := rfl; have hw1 : σ434 86 36 = (σ434 86 36) := rfl; have hw2 : σ434 86 37 = (σ371 86 37) := (hG436.1 86 37 (by decide)).trans ((congrFun (congrFun e423 86) 37).trans rfl); omega) (by have hw0 : σ434 86 39 = (σ434 86 39) := rfl; have hw1 : σ434 86 36 = (σ434 86 36) := rfl; have hw2 : σ434 86 37 = (σ371 86 37) := (hG436.1 86 37 (by decide)).trans ((congrFun (congrFun e423 86) 37).trans rfl); omega)
            refine qr_if_ne 70 66 rfl rfl rfl (by omega) (fun h452 => ?_) (fun h452 => ?_)
            · skip
              refine qr_iload_n 71 rfl (qm_gk g369 (by decide) (Or.inr rfl)) rfl ?_
              refine qr_bipush 73 rfl (by decide) rfl ?_
              refine qr_icmp_ne 82 76 rfl rfl rfl (by omega) (by omega) (fun h => False.elim (by omega)) (fun h453 => ?_)
              refine qr_iload_n 77 rfl (qm_gk g367 (by decide) (Or.inl (by decide))) rfl ?_
              refine qr_iload_n 78 rfl (qm_ge _ _ _) rfl ?_
              refine qr_idivW 79 rfl (by omega) rfl ?_
              refine qy_can (fun v454 hv454 => ?_)
              refine qr_goto 85 rfl rfl ?_
              exact hJ446 _ v454 (qm_gk g366 (by decide) (Or.inl (by decide))) (by omega)
            · skip
              refine qr_iconst 67 rfl rfl ?_
              refine qr_goto 85 rfl rfl ?_
              exact hJ446 _ 0 (qm_gk g366 (by decide) (Or.inl (by decide))) (by omega)
          · skip
            refine qr_iload_n 30 rfl g369 rfl ?_
            refine qr_bipush 32 rfl (by decide) rfl ?_
            refine qr_icmp_ne 94 35 rfl rfl rfl (by omega) (by omega) (fun h455 => ?_) (fun h455 => ?_)
            · skip
              refine qr_iload_n 95 rfl g367 rfl ?_
              refine qr_retI rfl rfl (by decide) (by decide) ?_
              have hw456 : σ371 86 36 = (σ371 86 36) := rfl
              have hw457 : σ371 86 37 = (σ371 86 37) := rfl
              have hw458 : σ371 86 39 = (σ371 86 39) := rfl
              exact ⟨_, rfl, hI373, hF374, u368, rfl, by omega, by omega⟩
            · skip
              refine qr_aload_n 36 rfl g366 rfl ?_
              refine qr_dup 37 rfl rfl rfl ?_
              refine qr_get 40 rfl rfl rfl (by decide) rfl ?_
              refine qr_iconst 41 rfl rfl ?_
              refine qr_iadd 42 rfl rfl ?_
              refine qr_put 45 rfl (by decide) rfl (Nat.le_of_ble_eq_true rfl) (Nat.le_of_ble_eq_true rfl) (Or.inl rfl) (qr_fitI rfl _) rfl ?_
              refine qy_wS (qw_s σ371 86 36 ((σ371 86 36) + 1)) rfl (fun σ459 e460 => ?_)
              have hI461 : qI σ459 α κ ρ := by rw [e460]; exact qI_s hI373 86 36 rfl (show 0 ≤ ((σ371 86 36) + 1) ∧ ((σ371 86 36) + 1) ≤ 120 by omega)
              have hF462 : qFr [(86, 36), (86, 38), (86, 39)] [] σ α σ459 α := by rw [e460]; exact qFr_s hF374 86 36 _ (by decide)
              refine qr_aload_n 46 rfl g366 rfl ?_
              refine qr_callN 49 rfl rfl rfl (sf_218_86o1 (d := d + 0) hI461 (by omega) (by omega)) ?_
              have hs465 : 0 ≤ σ459 86 36 ∧ σ459 86 36 ≤ 120 := hI461.1 86 36
              have hs466 : σ459 86 36 = ((σ371 86 36) + 1) := (congrFun (congrFun e460 86) 36).trans rfl
              have hs467 : 0 ≤ σ459 86 37 ∧ σ459 86 37 ≤ 120 := hI461.1 86 37
              have hs468 : σ459 86 37 = (σ371 86 37) := (congrFun (congrFun e460 86) 37).trans rfl
              have hs469 : 0 ≤ σ459 86 39 ∧ σ459 86 39 ≤ 6 := hI461.1 86 39
              have hs470 : σ459 86 39 = (σ371 86 39) := (congrFun (congrFun e460 86) 39).trans rfl
              rintro _ _ ⟨σ471, rfl, hI472, hG473, v463, rfl, hv463, hp464⟩
              have hF474 : qFr [(86, 36), (86, 38), (86, 39)] [] σ α σ471 α := qFr_t hF462 hG473 (by decide) (by decide)
              have hs475 : 0 ≤ σ471 86 36 ∧ σ471 86 36 ≤ 120 := hI472.1 86 36
              have hs476 : 0 ≤ σ471 86 37 ∧ σ471 86 37 ≤ 120 := hI472.1 86 37
              have hs477 : 0 ≤ σ471 86 39 ∧ σ471 86 39 ≤ 6 := hI472.1 86 39
              show qr_W (qe L xs vb) (d + 32) qx_e217 _ (49, _, [.int (qz v463)], qw σ471 α κ ρ, 0, 0)
              refine qr_istore_n _ 50 rfl (by decide) rfl rfl ?_
              refine qr_iload_n 51 rfl (qm_gk g369 (by decide) (Or.inr rfl)) rfl ?_
              refine qr_bipush 53 rfl (by decide) rfl ?_
              refine qr_icmp_ne 62 56 rfl rfl rfl (by omega) (by omega) (fun h478 => ?_) (fun h => False.elim (by omega))
              refine qr_iload_n 63 rfl (qm_ge _ _ _) rfl ?_
              have hJ483 : ∀ (ls : qm_L) (u481 : Int), qm_get ls 0 = some (.ref 86) → ((-2147483648) ≤ u481 ∧ u481 ≤ 2147483647) → qr_W (qe L xs vb) (d + 32) qx_e217 (fun r w' => ∃ σ', w' = qw σ' α κ ρ ∧ qI σ' α κ ρ ∧ qFr [(86, 36), (86, 38), (86, 39)] [] σ α σ' α ∧ ∃ v : Int, r = some (.int (qz v)) ∧ ((-2147483648) ≤ v ∧ v ≤ 2147483647) ∧ σ 86 39 ≤ σ' 86 39 ∧ σ 86 36 ≤ σ' 86 36 ∧ σ' 86 36 ≤ σ' 86 37 ∧ σ' 86 37 = σ 86 37) (85, ls, [.int (qz u481)], qw σ471 α κ ρ, 0, 0) := by
                intro ls u481 g480 hf482
                refine qr_istore_n _ 86 rfl (by decide) rfl rfl ?_
                refine qr_aload_n 87 rfl (qm_gk g480 (by decide) (Or.inr rfl)) rfl ?_
                refine qr_callN 90 rfl rfl rfl (sf_219_86t (d := d + 31) hI472 ) ?_
                have hs486 : 0 ≤ σ471 86 36 ∧ σ471 86 36 ≤ 120 := hI472.1 86 36
                have hs487 : 0 ≤ σ471 86 37 ∧ σ471 86 37 ≤ 120 := hI472.1 86 37
                have hs488 : σ471 86 37 = (σ371 86 37) := (hG473.1 86 37 (by decide)).trans ((congrFun (congrFun e460 86) 37).trans rfl)
                rintro _ _ ⟨rfl, v484, rfl, hv484, hp485⟩
                show qr_W (qe L xs vb) (d + 32) qx_e217 _ (90, _, [.int (qz v484)], qw σ471 α κ ρ, 0, 0)
                refine qr_istore_n _ 91 rfl (by decide) rfl rfl ?_
                refine qr_goto 10 rfl rfl ?_
                exact ih385 _ u481 v484 σ471 (by omega) (qm_gk (qm_gk g480 (by decide) (Or.inr rfl)) (by decide) (Or.inl (by decide))) (qm_gk (qm_ge _ _ _) (by decide) (Or.inr rfl)) (qm_ge _ _ _) (by omega) (by omega) hI472 hF474 ((hG473.1 86 37 (by decide)).trans ((congrFun (congrFun e460 86) 37).trans rfl)) (by have hw0 : σ471 86 39 = (σ471 86 39) := rfl; have hw1 : σ471 86 36 = (σ471 86 36) := rfl; have hw2 : σ471 86 37 = (σ371 86 37) := (hG473.1 86 37 (by decide)).trans ((congrFun (congrFun e460 86) 37).trans rfl); omega) (by have hw0 : σ471 86 39 = (σ471 86 39) := rfl; have hw1 : σ471 86 36 = (σ471 86 36) := rfl; have hw2 : σ471 86 37 = (σ371 86 37) := (hG473.1 86 37 (by decide)).trans ((congrFun (congrFun e460 86) 37).trans rfl); omega) (by have hw0 : σ471 86 39 = (σ471 86 39) := rfl; have hw1 : σ471 86 36 = (σ471 86 36) := rfl; have hw2 : σ471 86 37 = (σ371 86 37) := (hG473.1 86 37 (by decide)).trans ((congrFun (congrFun e460 86) 37).trans rfl); omega) (by have hw0 : σ471 86 39 = (σ471 86 39) := rfl; have hw1 : σ471 86 36 = (σ471 86 36) := rfl; have hw2 : σ471 86 37 = (σ371 86 37) := (hG473.1 86 37 (by decide)).trans ((congrFun (congrFun e460 86) 37).trans rfl); omega) (by have hw0 : σ471 86 39 = (σ471 86 39) := rfl; have hw1 : σ471 86 36 = (σ471 86 36) := rfl; have hw2 : σ471 86 37 = (σ371 86 37) := (hG473.1 86 37 (by decide)).trans ((congrFun (congrFun e460 86) 37).trans rfl); omega) (by have hw0 : σ471 86 39 = (σ471 86 39) := rfl; have hw1 : σ471 86 36 = (σ471 86 36) := rfl; have hw2 : σ471 86 37 = (σ371 86 37) := (hG473.1 86 37 (by decide)).trans ((congrFun (congrFun e460 86) 37).trans rfl); omega)
              refine qr_if_ne 70 66 rfl rfl rfl (by omega) (fun h489 => ?_) (fun h489 => ?_)
              · skip
                refine qr_iload_n 71 rfl (qm_gk g369 (by decide) (Or.inr rfl)) rfl ?_
                refine qr_bipush 73 rfl (by decide) rfl ?_
                refine qr_icmp_ne 82 76 rfl rfl rfl (by omega) (by omega) (fun h490 => ?_) (fun h => False.elim (by omega))
                refine qr_iload_n 83 rfl (qm_gk g367 (by decide) (Or.inl (by decide))) rfl ?_
                refine qr_iload_n 84 rfl (qm_ge _ _ _) rfl ?_
                refine qr_iremW 85 rfl (by omega) rfl ?_
                refine qy_can (fun v491 hv491 => ?_)
                exact hJ483 _ v491 (qm_gk g366 (by decide) (Or.inl (by decide))) (by omega)
              · skip
                refine qr_iconst 67 rfl rfl ?_
                refine qr_goto 85 rfl rfl ?_
                exact hJ483 _ 0 (qm_gk g366 (by decide) (Or.inl (by decide))) (by omega)
  exact hL384 ((((120 - σ6 86 36).toNat : Int) + 1 : Int)).toNat _ v1 v13 σ6 (by omega) rfl rfl rfl (by omega) (by omega) hI7 hF9 ((hG8.1 86 37 (by decide)).trans rfl) (by have hw0 : σ6 86 39 = (σ6 86 39) := rfl; have hw1 : σ6 86 36 = (σ6 86 36) := rfl; have hw2 : σ6 86 37 = (σ 86 37) := (hG8.1 86 37 (by decide)).trans rfl; omega) (by have hw0 : σ6 86 39 = (σ6 86 39) := rfl; have hw1 : σ6 86 36 = (σ6 86 36) := rfl; have hw2 : σ6 86 37 = (σ 86 37) := (hG8.1 86 37 (by decide)).trans rfl; omega) (by have hw0 : σ6 86 39 = (σ6 86 39) := rfl; have hw1 : σ6 86 36 = (σ6 86 36) := rfl; have hw2 : σ6 86 37 = (σ 86 37) := (hG8.1 86 37 (by decide)).trans rfl; omega) (by have hw0 : σ6 86 39 = (σ6 86 39) := rfl; have hw1 : σ6 86 36 = (σ6 86 36) := rfl; have hw2 : σ6 86 37 = (σ 86 37) := (hG8.1 86 37 (by decide)).trans rfl; omega) (by have hw0 : σ6 86 39 = (σ6 86 39) := rfl; have hw1 : σ6 86 36 = (σ6 86 36) := rfl; have hw2 : σ6 86 37 = (σ 86 37) := (hG8.1 86 37 (by decide)).trans rfl; omega) (by have hw0 : σ6 86 39 = (σ6 86 39) := rfl; have hw1 : σ6 86 36 = (σ6 86 36) := rfl; have hw2 : σ6 86 37 = (σ 86 37) := (hG8.1 86 37 (by decide)).trans rfl; omega)

set_option maxHeartbeats 4000000 in
set_option maxRecDepth 20000 in
/-- OneRoofModel.sums -/
theorem sf_216_86o1 {L : Nat} {xs : Nat → Int} {vb : Bool} {d : Nat} {σ α : Nat → Nat → Int} {κ : Nat → Option Nat} {ρ : Nat}  (hI : qI σ α κ ρ) (p0 : 1 ≤ σ 86 39) (p1 : σ 86 36 ≤ σ 86 37) : qm_T (qe L xs vb) (d + 34) 216 [.ref 86] (qw σ α κ ρ) (fun r w' => ∃ σ', w' = qw σ' α κ ρ ∧ qI σ' α κ ρ ∧ qFr [(86, 36), (86, 38), (86, 39)] [] σ α σ' α ∧ ∃ v : Int, r = some (.int (qz v)) ∧ ((-2147483648) ≤ v ∧ v ≤ 2147483647) ∧ σ 86 39 ≤ σ' 86 39 ∧ σ 86 36 ≤ σ' 86 36 ∧ σ' 86 36 ≤ σ' 86 37 ∧ σ' 86 37 = σ 86 37) := by
  refine qr_start (d := d + 33) qv_e216 (Nat.le_of_ble_eq_true rfl) ?_
  show qr_W (qe L xs vb) (d + 33) qx_e216 _ (0, [(0, .ref 86)], [], _, 0, 0)
  have hF0 := qFr_rf [(86, 36), (86, 38), (86, 39)] [] σ α
  have hz86_39 : 0 ≤ σ 86 39 ∧ σ 86 39 ≤ 6 := hI.1 86 39
  have hz86_36 : 0 ≤ σ 86 36 ∧ σ 86 36 ≤ 120 := hI.1 86 36
  have hz86_37 : 0 ≤ σ 86 37 ∧ σ 86 37 ≤ 120 := hI.1 86 37
  refine qr_aload_n 1 rfl rfl rfl ?_
  refine qr_callN 4 rfl rfl rfl (sf_217_86o1 (d := d + 0) hI (by omega) (by omega)) ?_
  have hs3 : 0 ≤ σ 86 36 ∧ σ 86 36 ≤ 120 := hI.1 86 36
  have hs4 : 0 ≤ σ 86 37 ∧ σ 86 37 ≤ 120 := hI.1 86 37
  have hs5 : 0 ≤ σ 86 39 ∧ σ 86 39 ≤ 6 := hI.1 86 39
  rintro _ _ ⟨σ6, rfl, hI7, hG8, v1, rfl, hv1, hp2⟩
  have hF9 : qFr [(86, 36), (86, 38), (86, 39)] [] σ α σ6 α := qFr_t hF0 hG8 (by decide) (by decide)
  have hs10 : 0 ≤ σ6 86 36 ∧ σ6 86 36 ≤ 120 := hI7.1 86 36
  have hs11 : 0 ≤ σ6 86 37 ∧ σ6 86 37 ≤ 120 := hI7.1 86 37
  have hs12 : 0 ≤ σ6 86 39 ∧ σ6 86 39 ≤ 6 := hI7.1 86 39
  show qr_W (qe L xs vb) (d + 33) qx_e216 _ (4, _, [.int (qz v1)], qw σ6 α κ ρ, 0, 0)
  refine qr_istore_n _ 5 rfl (by decide) rfl rfl ?_
  have hL435 : ∀ (n : Nat) (ls : qm_L) (u423 : Int) (σ424 : Nat → Nat → Int), ((120 - σ424 86 36).toNat : Int) < (n : Int) → qm_get ls 0 = some (.ref 86) → qm_get ls 1 = some (.int (qz u423)) → ((-2147483648) ≤ u423 ∧ u423 ≤ 2147483647) → qI σ424 α κ ρ → qFr [(86, 36), (86, 38), (86, 39)] [] σ α σ424 α → σ424 86 37 = (σ 86 37) → 1 ≤ σ424 86 39 → σ 86 39 ≤ σ424 86 39 → σ 86 36 ≤ σ424 86 36 → σ424 86 36 ≤ σ424 86 37 → σ424 86 37 = σ 86 37 → qr_W (qe L xs vb) (d + 33) qx_e216 (fun r w' => ∃ σ', w' = qw σ' α κ ρ ∧ qI σ' α κ ρ ∧ qFr [(86, 36), (86, 38), (86, 39)] [] σ α σ' α ∧ ∃ v : Int, r = some (.int (qz v)) ∧ ((-2147483648) ≤ v ∧ v ≤ 2147483647) ∧ σ 86 39 ≤ σ' 86 39 ∧ σ 86 36 ≤ σ' 86 36 ∧ σ' 86 36 ≤ σ' 86 37 ∧ σ' 86 37 = σ 86 37) (5, ls, [], qw σ424 α κ ρ, 0, 0) := by
    intro n
    induction n with
    | zero => intro ls u423 σ424 hm g421 g422 hf429 hI426 hF427 hk428 hx430 hx431 hx432 hx433 hx434; exact False.elim (by omega)
    | succ n ih436 =>
      intro ls u423 σ424 hm g421 g422 hf429 hI426 hF427 hk428 hx430 hx431 hx432 hx433 hx434
      have hs437 : 0 ≤ σ424 86 39 ∧ σ424 86 39 ≤ 6 := hI426.1 86 39
      have hs438 : 0 ≤ σ424 86 36 ∧ σ424 86 36 ≤ 120 := hI426.1 86 36
      have hs439 : 0 ≤ σ424 86 37 ∧ σ424 86 37 ≤ 120 := hI426.1 86 37
      refine qr_aload_n 6 rfl g421 rfl ?_
      refine qr_get 9 rfl rfl rfl (by decide) rfl ?_
      have hs440 : (-1) ≤ σ424 86 38 ∧ σ424 86 38 ≤ 120 := hI426.1 86 38
      refine qr_if_ge 77 12 rfl rfl rfl (by omega) (fun h441 => ?_) (fun h441 => ?_)
      · skip
        refine qr_iload_n 78 rfl g422 rfl ?_
        refine qr_retI rfl rfl (by decide) (by decide) ?_
        have hw442 : σ424 86 36 = (σ424 86 36) := rfl
        have hw443 : σ424 86 37 = (σ424 86 37) := rfl
        have hw444 : σ424 86 39 = (σ424 86 39) := rfl
        exact ⟨_, rfl, hI426, hF427, u423, rfl, by omega, by omega⟩
      · skip
        refine qr_aload_n 13 rfl g421 rfl ?_
        refine qr_callN 16 rfl rfl rfl (sf_219_86t (d := d + 32) hI426 ) ?_
        have hs447 : 0 ≤ σ424 86 36 ∧ σ424 86 36 ≤ 120 := hI426.1 86 36
        have hs448 : 0 ≤ σ424 86 37 ∧ σ424 86 37 ≤ 120 := hI426.1 86 37
        rintro _ _ ⟨rfl, v445, rfl, hv445, hp446⟩
        show qr_W (qe L xs vb) (d + 33) qx_e216 _ (16, _, [.int (qz v445)], qw σ424 α κ ρ, 0, 0)
        refine qr_bipush 18 rfl (by decide) rfl ?_
        refine qr_icmp_eq 30 21 rfl rfl rfl (by omega) (by omega) (fun h449 => ?_) (fun h449 => ?_)
        · skip
          refine qr_aload_n 31 rfl g421 rfl ?_
          refine qr_callN 34 rfl rfl rfl (sf_219_86t (d := d + 32) hI426 ) ?_
          have hs452 : 0 ≤ σ424 86 36 ∧ σ424 86 36 ≤ 120 := hI426.1 86 36
          have hs453 : 0 ≤ σ424 86 37 ∧ σ424 86 37 ≤ 120 := hI426.1 86 37
          rintro _ _ ⟨rfl, v450, rfl, hv450, hp451⟩
          show qr_W (qe L xs vb) (d + 33) qx_e216 _ (34, _, [.int (qz v450)], qw σ424 α κ ρ, 0, 0)
          refine qr_bipush 36 rfl (by decide) rfl ?_
          refine qr_icmp_ne 43 39 rfl rfl rfl (by omega) (by omega) (fun h454 => ?_) (fun h454 => ?_)
          · skip
            refine qr_iconst 44 rfl rfl ?_
            refine qr_istore_n _ 45 rfl (by decide) rfl rfl ?_
            refine qr_aload_n 46 rfl (qm_gk g421 (by decide) (Or.inl (by decide))) rfl ?_
            refine qr_dup 47 rfl rfl rfl ?_
            refine qr_get 50 rfl rfl rfl (by decide) rfl ?_
            refine qr_iconst 51 rfl rfl ?_
            refine qr_iadd 52 rfl rfl ?_
            refine qr_put 55 rfl (by decide) rfl (Nat.le_of_ble_eq_true rfl) (Nat.le_of_ble_eq_true rfl) (Or.inl rfl) (qr_fitI rfl _) rfl ?_
            refine qy_wS (qw_s σ424 86 36 ((σ424 86 36) + 1)) rfl (fun σ455 e456 => ?_)
            have hI457 : qI σ455 α κ ρ := by rw [e456]; exact qI_s hI426 86 36 rfl (show 0 ≤ ((σ424 86 36) + 1) ∧ ((σ424 86 36) + 1) ≤ 120 by omega)
            have hF458 : qFr [(86, 36), (86, 38), (86, 39)] [] σ α σ455 α := by rw [e456]; exact qFr_s hF427 86 36 _ (by decide)
            refine qr_aload_n 56 rfl (qm_gk g421 (by decide) (Or.inl (by decide))) rfl ?_
            refine qr_callN 59 rfl rfl rfl (sf_217_86o1 (d := d + 0) hI457 (by omega) (by omega)) ?_
            have hs461 : 0 ≤ σ455 86 36 ∧ σ455 86 36 ≤ 120 := hI457.1 86 36
            have hs462 : σ455 86 36 = ((σ424 86 36) + 1) := (congrFun (congrFun e456 86) 36).trans rfl
            have hs463 : 0 ≤ σ455 86 37 ∧ σ455 86 37 ≤ 120 := hI457.1 86 37
            have hs464 : σ455 86 37 = (σ424 86 37) := (congrFun (congrFun e456 86) 37).trans rfl
            have hs465 : 0 ≤ σ455 86 39 ∧ σ455 86 39 ≤ 6 := hI457.1 86 39
            have hs466 : σ455 86 39 = (σ424 86 39) := (congrFun (congrFun e456 86) 39).trans rfl
            rintro _ _ ⟨σ467, rfl, hI468, hG469, v459, rfl, hv459, hp460⟩
            have hF470 : qFr [(86, 36), (86, 38), (86, 39)] [] σ α σ467 α := qFr_t hF458 hG469 (by decide) (by decide)
            have hs471 : 0 ≤ σ467 86 36 ∧ σ467 86 36 ≤ 120 := hI468.1 86 36
            have hs472 : 0 ≤ σ467 86 37 ∧ σ467 86 37 ≤ 120 := hI468.1 86 37
            have hs473 : 0 ≤ σ467 86 39 ∧ σ467 86 39 ≤ 6 := hI468.1 86 39
            show qr_W (qe L xs vb) (d + 33) qx_e216 _ (59, _, [.int (qz v459)], qw σ467 α κ ρ, 0, 0)
            refine qr_istore_n _ 60 rfl (by decide) rfl rfl ?_
            refine qr_iload_n 61 rfl (qm_gk (qm_ge _ _ _) (by decide) (Or.inr rfl)) rfl ?_
            refine qr_if_eq 70 64 rfl rfl rfl (by omega) (fun h474 => ?_) (fun h => False.elim (by omega))
            refine qr_iload_n 71 rfl (qm_gk (qm_gk g422 (by decide) (Or.inr rfl)) (by decide) (Or.inl (by decide))) rfl ?_
            refine qr_iload_n 72 rfl (qm_ge _ _ _) rfl ?_
            refine qr_isub 73 rfl rfl ?_
            refine qy_can (fun v475 hv475 => ?_)
            refine qr_istore_n _ 74 rfl (by decide) rfl rfl ?_
            refine qr_goto 5 rfl rfl ?_
            exact ih436 _ v475 σ467 (by omega) (qm_gk (qm_gk (qm_gk g421 (by decide) (Or.inl (by decide))) (by decide) (Or.inl (by decide))) (by decide) (Or.inr rfl)) (qm_ge _ _ _) (by omega) hI468 hF470 ((hG469.1 86 37 (by decide)).trans ((congrFun (congrFun e456 86) 37).trans rfl)) (by have hw0 : σ467 86 39 = (σ467 86 39) := rfl; have hw1 : σ467 86 36 = (σ467 86 36) := rfl; have hw2 : σ467 86 37 = (σ424 86 37) := (hG469.1 86 37 (by decide)).trans ((congrFun (congrFun e456 86) 37).trans rfl); omega) (by have hw0 : σ467 86 39 = (σ467 86 39) := rfl; have hw1 : σ467 86 36 = (σ467 86 36) := rfl; have hw2 : σ467 86 37 = (σ424 86 37) := (hG469.1 86 37 (by decide)).trans ((congrFun (congrFun e456 86) 37).trans rfl); omega) (by have hw0 : σ467 86 39 = (σ467 86 39) := rfl; have hw1 : σ467 86 36 = (σ467 86 36) := rfl; have hw2 : σ467 86 37 = (σ424 86 37) := (hG469.1 86 37 (by decide)).trans ((congrFun (congrFun e456 86) 37).trans rfl); omega) (by have hw0 : σ467 86 39 = (σ467 86 39) := rfl; have hw1 : σ467 86 36 = (σ467 86 36) := rfl; have hw2 : σ467 86 37 = (σ424 86 37) := (hG469.1 86 37 (by decide)).trans ((congrFun (congrFun e456 86) 37).trans rfl); omega) (by have hw0 : σ467 86 39 = (σ467 86 39) := rfl; have hw1 : σ467 86 36 = (σ467 86 36) := rfl; have hw2 : σ467 86 37 = (σ424 86 37) := (hG469.1 86 37 (by decide)).trans ((congrFun (congrFun e456 86) 37).trans rfl); omega)
          · skip
            refine qr_iconst 40 rfl rfl ?_
            refine qr_goto 44 rfl rfl ?_
            refine qr_istore_n _ 45 rfl (by decide) rfl rfl ?_
            refine qr_aload_n 46 rfl (qm_gk g421 (by decide) (Or.inl (by decide))) rfl ?_
            refine qr_dup 47 rfl rfl rfl ?_
            refine qr_get 50 rfl rfl rfl (by decide) rfl ?_
            refine qr_iconst 51 rfl rfl ?_
            refine qr_iadd 52 rfl rfl ?_
            refine qr_put 55 rfl (by decide) rfl (Nat.le_of_ble_eq_true rfl) (Nat.le_of_ble_eq_true rfl) (Or.inl rfl) (qr_fitI rfl _) rfl ?_
            refine qy_wS (qw_s σ424 86 36 ((σ424 86 36) + 1)) rfl (fun σ476 e477 => ?_)
            have hI478 : qI σ476 α κ ρ := by rw [e477]; exact qI_s hI426 86 36 rfl (show 0 ≤ ((σ424 86 36) + 1) ∧ ((σ424 86 36) + 1) ≤ 120 by omega)
            have hF479 : qFr [(86, 36), (86, 38), (86, 39)] [] σ α σ476 α := by rw [e477]; exact qFr_s hF427 86 36 _ (by decide)
            refine qr_aload_n 56 rfl (qm_gk g421 (by decide) (Or.inl (by decide))) rfl ?_
            refine qr_callN 59 rfl rfl rfl (sf_217_86o1 (d := d + 0) hI478 (by omega) (by omega)) ?_
            have hs482 : 0 ≤ σ476 86 36 ∧ σ476 86 36 ≤ 120 := hI478.1 86 36
            have hs483 : σ476 86 36 = ((σ424 86 36) + 1) := (congrFun (congrFun e477 86) 36).trans rfl
            have hs484 : 0 ≤ σ476 86 37 ∧ σ476 86 37 ≤ 120 := hI478.1 86 37
            have hs485 : σ476 86 37 = (σ424 86 37) := (congrFun (congrFun e477 86) 37).trans rfl
            have hs486 : 0 ≤ σ476 86 39 ∧ σ476 86 39 ≤ 6 := hI478.1 86 39
            have hs487 : σ476 86 39 = (σ424 86 39) := (congrFun (congrFun e477 86) 39).trans rfl
            rintro _ _ ⟨σ488, rfl, hI489, hG490, v480, rfl, hv480, hp481⟩
            have hF491 : qFr [(86, 36), (86, 38), (86, 39)] [] σ α σ488 α := qFr_t hF479 hG490 (by decide) (by decide)
            have hs492 : 0 ≤ σ488 86 36 ∧ σ488 86 36 ≤ 120 := hI489.1 86 36
            have hs493 : 0 ≤ σ488 86 37 ∧ σ488 86 37 ≤ 120 := hI489.1 86 37
            have hs494 : 0 ≤ σ488 86 39 ∧ σ488 86 39 ≤ 6 := hI489.1 86 39
            show qr_W (qe L xs vb) (d + 33) qx_e216 _ (59, _, [.int (qz v480)], qw σ488 α κ ρ, 0, 0)
            refine qr_istore_n _ 60 rfl (by decide) rfl rfl ?_
            refine qr_iload_n 61 rfl (qm_gk (qm_ge _ _ _) (by decide) (Or.inr rfl)) rfl ?_
            refine qr_if_eq 70 64 rfl rfl rfl (by omega) (fun h => False.elim (by omega)) (fun h495 => ?_)
            refine qr_iload_n 65 rfl (qm_gk (qm_gk g422 (by decide) (Or.inr rfl)) (by decide) (Or.inl (by decide))) rfl ?_
            refine qr_iload_n 66 rfl (qm_ge _ _ _) rfl ?_
            refine qr_iadd 67 rfl rfl ?_
            refine qy_can (fun v496 hv496 => ?_)
            refine qr_goto 73 rfl rfl ?_
            refine qr_istore_n _ 74 rfl (by decide) rfl rfl ?_
            refine qr_goto 5 rfl rfl ?_
            exact ih436 _ v496 σ488 (by omega) (qm_gk (qm_gk (qm_gk g421 (by decide) (Or.inl (by decide))) (by decide) (Or.inl (by decide))) (by decide) (Or.inr rfl)) (qm_ge _ _ _) (by omega) hI489 hF491 ((hG490.1 86 37 (by decide)).trans ((congrFun (congrFun e477 86) 37).trans rfl)) (by have hw0 : σ488 86 39 = (σ488 86 39) := rfl; have hw1 : σ488 86 36 = (σ488 86 36) := rfl; have hw2 : σ488 86 37 = (σ424 86 37) := (hG490.1 86 37 (by decide)).trans ((congrFun (congrFun e477 86) 37).trans rfl); omega) (by have hw0 : σ488 86 39 = (σ488 86 39) := rfl; have hw1 : σ488 86 36 = (σ488 86 36) := rfl; have hw2 : σ488 86 37 = (σ424 86 37) := (hG490.1 86 37 (by decide)).trans ((congrFun (congrFun e477 86) 37).trans rfl); omega) (by have hw0 : σ488 86 39 = (σ488 86 39) := rfl; have hw1 : σ488 86 36 = (σ488 86 36) := rfl; have hw2 : σ488 86 37 = (σ424 86 37) := (hG490.1 86 37 (by decide)).trans ((congrFun (congrFun e477 86) 37).trans rfl); omega) (by have hw0 : σ488 86 39 = (σ488 86 39) := rfl; have hw1 : σ488 86 36 = (σ488 86 36) := rfl; have hw2 : σ488 86 37 = (σ424 86 37) := (hG490.1 86 37 (by decide)).trans ((congrFun (congrFun e477 86) 37).trans rfl); omega) (by have hw0 : σ488 86 39 = (σ488 86 39) := rfl; have hw1 : σ488 86 36 = (σ488 86 36) := rfl; have hw2 : σ488 86 37 = (σ424 86 37) := (hG490.1 86 37 (by decide)).trans ((congrFun (congrFun e477 86) 37).trans rfl); omega)
        · skip
          refine qr_aload_n 22 rfl g421 rfl ?_
          refine qr_callN 25 rfl rfl rfl (sf_219_86t (d := d + 32) hI426 ) ?_
          have hs499 : 0 ≤ σ424 86 36 ∧ σ424 86 36 ≤ 120 := hI426.1 86 36
          have hs500 : 0 ≤ σ424 86 37 ∧ σ424 86 37 ≤ 120 := hI426.1 86 37
          rintro _ _ ⟨rfl, v497, rfl, hv497, hp498⟩
          show qr_W (qe L xs vb) (d + 33) qx_e216 _ (25, _, [.int (qz v497)], qw σ424 α κ ρ, 0, 0)
          refine qr_bipush 27 rfl (by decide) rfl ?_
          refine qr_icmp_ne 77 30 rfl rfl rfl (by omega) (by omega) (fun h501 => ?_) (fun h501 => ?_)
          · skip
            refine qr_iload_n 78 rfl g422 rfl ?_
            refine qr_retI rfl rfl (by decide) (by decide) ?_
            have hw502 : σ424 86 36 = (σ424 86 36) := rfl
            have hw503 : σ424 86 37 = (σ424 86 37) := rfl
            have hw504 : σ424 86 39 = (σ424 86 39) := rfl
            exact ⟨_, rfl, hI426, hF427, u423, rfl, by omega, by omega⟩
          · skip
            refine qr_aload_n 31 rfl g421 rfl ?_
            refine qr_callN 34 rfl rfl rfl (sf_219_86t (d := d + 32) hI426 ) ?_
            have hs507 : 0 ≤ σ424 86 36 ∧ σ424 86 36 ≤ 120 := hI426.1 86 36
            have hs508 : 0 ≤ σ424 86 37 ∧ σ424 86 37 ≤ 120 := hI426.1 86 37
            rintro _ _ ⟨rfl, v505, rfl, hv505, hp506⟩
            show qr_W (qe L xs vb) (d + 33) qx_e216 _ (34, _, [.int (qz v505)], qw σ424 α κ ρ, 0, 0)
            refine qr_bipush 36 rfl (by decide) rfl ?_
            refine qr_icmp_ne 43 39 rfl rfl rfl (by omega) (by omega) (fun h509 => ?_) (fun h509 => ?_)
            · skip
              refine qr_iconst 44 rfl rfl ?_
              refine qr_istore_n _ 45 rfl (by decide) rfl rfl ?_
              refine qr_aload_n 46 rfl (qm_gk g421 (by decide) (Or.inl (by decide))) rfl ?_
              refine qr_dup 47 rfl rfl rfl ?_
              refine qr_get 50 rfl rfl rfl (by decide) rfl ?_
              refine qr_iconst 51 rfl rfl ?_
              refine qr_iadd 52 rfl rfl ?_
              refine qr_put 55 rfl (by decide) rfl (Nat.le_of_ble_eq_true rfl) (Nat.le_of_ble_eq_true rfl) (Or.inl rfl) (qr_fitI rfl _) rfl ?_
              refine qy_wS (qw_s σ424 86 36 ((σ424 86 36) + 1)) rfl (fun σ510 e511 => ?_)
              have hI512 : qI σ510 α κ ρ := by rw [e511]; exact qI_s hI426 86 36 rfl (show 0 ≤ ((σ424 86 36) + 1) ∧ ((σ424 86 36) + 1) ≤ 120 by omega)
              have hF513 : qFr [(86, 36), (86, 38), (86, 39)] [] σ α σ510 α := by rw [e511]; exact qFr_s hF427 86 36 _ (by decide)
              refine qr_aload_n 56 rfl (qm_gk g421 (by decide) (Or.inl (by decide))) rfl ?_
              refine qr_callN 59 rfl rfl rfl (sf_217_86o1 (d := d + 0) hI512 (by omega) (by omega)) ?_
              have hs516 : 0 ≤ σ510 86 36 ∧ σ510 86 36 ≤ 120 := hI512.1 86 36
              have hs517 : σ510 86 36 = ((σ424 86 36) + 1) := (congrFun (congrFun e511 86) 36).trans rfl
              have hs518 : 0 ≤ σ510 86 37 ∧ σ510 86 37 ≤ 120 := hI512.1 86 37
              have hs519 : σ510 86 37 = (σ424 86 37) := (congrFun (congrFun e511 86) 37).trans rfl
              have hs520 : 0 ≤ σ510 86 39 ∧ σ510 86 39 ≤ 6 := hI512.1 86 39
              have hs521 : σ510 86 39 = (σ424 86 39) := (congrFun (congrFun e511 86) 39).trans rfl
              rintro _ _ ⟨σ522, rfl, hI523, hG524, v514, rfl, hv514, hp515⟩
              have hF525 : qFr [(86, 36), (86, 38), (86, 39)] [] σ α σ522 α := qFr_t hF513 hG524 (by decide) (by decide)
              have hs526 : 0 ≤ σ522 86 36 ∧ σ522 86 36 ≤ 120 := hI523.1 86 36
              have hs527 : 0 ≤ σ522 86 37 ∧ σ522 86 37 ≤ 120 := hI523.1 86 37
              have hs528 : 0 ≤ σ522 86 39 ∧ σ522 86 39 ≤ 6 := hI523.1 86 39
              show qr_W (qe L xs vb) (d + 33) qx_e216 _ (59, _, [.int (qz v514)], qw σ522 α κ ρ, 0, 0)
              refine qr_istore_n _ 60 rfl (by decide) rfl rfl ?_
              refine qr_iload_n 61 rfl (qm_gk (qm_ge _ _ _) (by decide) (Or.inr rfl)) rfl ?_
              refine qr_if_eq 70 64 rfl rfl rfl (by omega) (fun h529 => ?_) (fun h => False.elim (by omega))
              refine qr_iload_n 71 rfl (qm_gk (qm_gk g422 (by decide) (Or.inr rfl)) (by decide) (Or.inl (by decide))) rfl ?_
              refine qr_iload_n 72 rfl (qm_ge _ _ _) rfl ?_
              refine qr_isub 73 rfl rfl ?_
              refine qy_can (fun v530 hv530 => ?_)
              refine qr_istore_n _ 74 rfl (by decide) rfl rfl ?_
              refine qr_goto 5 rfl rfl ?_
              exact ih436 _ v530 σ522 (by omega) (qm_gk (qm_gk (qm_gk g421 (by decide) (Or.inl (by decide))) (by decide) (Or.inl (by decide))) (by decide) (Or.inr rfl)) (qm_ge _ _ _) (by omega) hI523 hF525 ((hG524.1 86 37 (by decide)).trans ((congrFun (congrFun e511 86) 37).trans rfl)) (by have hw0 : σ522 86 39 = (σ522 86 39) := rfl; have hw1 : σ522 86 36 = (σ522 86 36) := rfl; have hw2 : σ522 86 37 = (σ424 86 37) := (hG524.1 86 37 (by decide)).trans ((congrFun (congrFun e511 86) 37).trans rfl); omega) (by have hw0 : σ522 86 39 = (σ522 86 39) := rfl; have hw1 : σ522 86 36 = (σ522 86 36) := rfl; have hw2 : σ522 86 37 = (σ424 86 37) := (hG524.1 86 37 (by decide)).trans ((congrFun (congrFun e511 86) 37).trans rfl); omega) (by have hw0 : σ522 86 39 = (σ522 86 39) := rfl; have hw1 : σ522 86 36 = (σ522 86 36) := rfl; have hw2 : σ522 86 37 = (σ424 86 37) := (hG524.1 86 37 (by decide)).trans ((congrFun (congrFun e511 86) 37).trans rfl); omega) (by have hw0 : σ522 86 39 = (σ522 86 39) := rfl; have hw1 : σ522 86 36 = (σ522 86 36) := rfl; have hw2 : σ522 86 37 = (σ424 86 37) := (hG524.1 86 37 (by decide)).trans ((congrFun (congrFun e511 86) 37).trans rfl); omega) (by have hw0 : σ522 86 39 = (σ522 86 39) := rfl; have hw1 : σ522 86 36 = (σ522 86 36) := rfl; have hw2 : σ522 86 37 = (σ424 86 37) := (hG524.1 86 37 (by decide)).trans ((congrFun (congrFun e511 86) 37).trans rfl); omega)
            · skip
              refine qr_iconst 40 rfl rfl ?_
              refine qr_goto 44 rfl rfl ?_
              refine qr_istore_n _ 45 rfl (by decide) rfl rfl ?_
              refine qr_aload_n 46 rfl (qm_gk g421 (by decide) (Or.inl (by decide))) rfl ?_
              refine qr_dup 47 rfl rfl rfl ?_
              refine qr_get 50 rfl rfl rfl (by decide) rfl ?_
              refine qr_iconst 51 rfl rfl ?_
              refine qr_iadd 52 rfl rfl ?_
              refine qr_put 55 rfl (by decide) rfl (Nat.le_of_ble_eq_true rfl) (Nat.le_of_ble_eq_true rfl) (Or.inl rfl) (qr_fitI rfl _) rfl ?_
              refine qy_wS (qw_s σ424 86 36 ((σ424 86 36) + 1)) rfl (fun σ531 e532 => ?_)
              have hI533 : qI σ531 α κ ρ := by rw [e532]; exact qI_s hI426 86 36 rfl (show 0 ≤ ((σ424 86 36) + 1) ∧ ((σ424 86 36) + 1) ≤ 120 by omega)
              have hF534 : qFr [(86, 36), (86, 38), (86, 39)] [] σ α σ531 α := by rw [e532]; exact qFr_s hF427 86 36 _ (by decide)
              refine qr_aload_n 56 rfl (qm_gk g421 (by decide) (Or.inl (by decide))) rfl ?_
              refine qr_callN 59 rfl rfl rfl (sf_217_86o1 (d := d + 0) hI533 (by omega) (by omega)) ?_
              have hs537 : 0 ≤ σ531 86 36 ∧ σ531 86 36 ≤ 120 := hI533.1 86 36
              have hs538 : σ531 86 36 = ((σ424 86 36) + 1) := (congrFun (congrFun e532 86) 36).trans rfl
              have hs539 : 0 ≤ σ531 86 37 ∧ σ531 86 37 ≤ 120 := hI533.1 86 37
              have hs540 : σ531 86 37 = (σ424 86 37) := (congrFun (congrFun e532 86) 37).trans rfl
              have hs541 : 0 ≤ σ531 86 39 ∧ σ531 86 39 ≤ 6 := hI533.1 86 39
              have hs542 : σ531 86 39 = (σ424 86 39) := (congrFun (congrFun e532 86) 39).trans rfl
              rintro _ _ ⟨σ543, rfl, hI544, hG545, v535, rfl, hv535, hp536⟩
              have hF546 : qFr [(86, 36), (86, 38), (86, 39)] [] σ α σ543 α := qFr_t hF534 hG545 (by decide) (by decide)
              have hs547 : 0 ≤ σ543 86 36 ∧ σ543 86 36 ≤ 120 := hI544.1 86 36
              have hs548 : 0 ≤ σ543 86 37 ∧ σ543 86 37 ≤ 120 := hI544.1 86 37
              have hs549 : 0 ≤ σ543 86 39 ∧ σ543 86 39 ≤ 6 := hI544.1 86 39
              show qr_W (qe L xs vb) (d + 33) qx_e216 _ (59, _, [.int (qz v535)], qw σ543 α κ ρ, 0, 0)
              refine qr_istore_n _ 60 rfl (by decide) rfl rfl ?_
              refine qr_iload_n 61 rfl (qm_gk (qm_ge _ _ _) (by decide) (Or.inr rfl)) rfl ?_
              refine qr_if_eq 70 64 rfl rfl rfl (by omega) (fun h => False.elim (by omega)) (fun h550 => ?_)
              refine qr_iload_n 65 rfl (qm_gk (qm_gk g422 (by decide) (Or.inr rfl)) (by decide) (Or.inl (by decide))) rfl ?_
              refine qr_iload_n 66 rfl (qm_ge _ _ _) rfl ?_
              refine qr_iadd 67 rfl rfl ?_
              refine qy_can (fun v551 hv551 => ?_)
              refine qr_goto 73 rfl rfl ?_
              refine qr_istore_n _ 74 rfl (by decide) rfl rfl ?_
              refine qr_goto 5 rfl rfl ?_
              exact ih436 _ v551 σ543 (by omega) (qm_gk (qm_gk (qm_gk g421 (by decide) (Or.inl (by decide))) (by decide) (Or.inl (by decide))) (by decide) (Or.inr rfl)) (qm_ge _ _ _) (by omega) hI544 hF546 ((hG545.1 86 37 (by decide)).trans ((congrFun (congrFun e532 86) 37).trans rfl)) (by have hw0 : σ543 86 39 = (σ543 86 39) := rfl; have hw1 : σ543 86 36 = (σ543 86 36) := rfl; have hw2 : σ543 86 37 = (σ424 86 37) := (hG545.1 86 37 (by decide)).trans ((congrFun (congrFun e532 86) 37).trans rfl); omega) (by have hw0 : σ543 86 39 = (σ543 86 39) := rfl; have hw1 : σ543 86 36 = (σ543 86 36) := rfl; have hw2 : σ543 86 37 = (σ424 86 37) := (hG545.1 86 37 (by decide)).trans ((congrFun (congrFun e532 86) 37).trans rfl); omega) (by have hw0 : σ543 86 39 = (σ543 86 39) := rfl; have hw1 : σ543 86 36 = (σ543 86 36) := rfl; have hw2 : σ543 86 37 = (σ424 86 37) := (hG545.1 86 37 (by decide)).trans ((congrFun (congrFun e532 86) 37).trans rfl); omega) (by have hw0 : σ543 86 39 = (σ543 86 39) := rfl; have hw1 : σ543 86 36 = (σ543 86 36) := rfl; have hw2 : σ543 86 37 = (σ424 86 37) := (hG545.1 86 37 (by decide)).trans ((congrFun (congrFun e532 86) 37).trans rfl); omega) (by have hw0 : σ543 86 39 = (σ543 86 39) := rfl; have hw1 : σ543 86 36 = (σ543 86 36) := rfl; have hw2 : σ543 86 37 = (σ424 86 37) := (hG545.1 86 37 (by decide)).trans ((congrFun (congrFun e532 86) 37).trans rfl); omega)
  exact hL435 ((((120 - σ6 86 36).toNat : Int) + 1 : Int)).toNat _ v1 σ6 (by omega) rfl rfl (by omega) hI7 hF9 ((hG8.1 86 37 (by decide)).trans rfl) (by have hw0 : σ6 86 39 = (σ6 86 39) := rfl; have hw1 : σ6 86 36 = (σ6 86 36) := rfl; have hw2 : σ6 86 37 = (σ 86 37) := (hG8.1 86 37 (by decide)).trans rfl; omega) (by have hw0 : σ6 86 39 = (σ6 86 39) := rfl; have hw1 : σ6 86 36 = (σ6 86 36) := rfl; have hw2 : σ6 86 37 = (σ 86 37) := (hG8.1 86 37 (by decide)).trans rfl; omega) (by have hw0 : σ6 86 39 = (σ6 86 39) := rfl; have hw1 : σ6 86 36 = (σ6 86 36) := rfl; have hw2 : σ6 86 37 = (σ 86 37) := (hG8.1 86 37 (by decide)).trans rfl; omega) (by have hw0 : σ6 86 39 = (σ6 86 39) := rfl; have hw1 : σ6 86 36 = (σ6 86 36) := rfl; have hw2 : σ6 86 37 = (σ 86 37) := (hG8.1 86 37 (by decide)).trans rfl; omega) (by have hw0 : σ6 86 39 = (σ6 86 39) := rfl; have hw1 : σ6 86 36 = (σ6 86 36) := rfl; have hw2 : σ6 86 37 = (σ 86 37) := (hG8.1 86 37 (by decide)).trans rfl; omega)

set_option maxHeartbeats 4000000 in
set_option maxRecDepth 20000 in
/-- OneRoofModel.compared -/
theorem sf_215_86o1 {L : Nat} {xs : Nat → Int} {vb : Bool} {d : Nat} {σ α : Nat → Nat → Int} {κ : Nat → Option Nat} {ρ : Nat}  (hI : qI σ α κ ρ) (p0 : 1 ≤ σ 86 39) (p1 : σ 86 36 ≤ σ 86 37) : qm_T (qe L xs vb) (d + 35) 215 [.ref 86] (qw σ α κ ρ) (fun r w' => ∃ σ', w' = qw σ' α κ ρ ∧ qI σ' α κ ρ ∧ qFr [(86, 36), (86, 38), (86, 39)] [] σ α σ' α ∧ ∃ v : Int, r = some (.int (qz v)) ∧ ((-2147483648) ≤ v ∧ v ≤ 2147483647) ∧ σ 86 39 ≤ σ' 86 39 ∧ σ 86 36 ≤ σ' 86 36 ∧ σ' 86 36 ≤ σ' 86 37 ∧ σ' 86 37 = σ 86 37) := by
  refine qr_start (d := d + 34) qv_e215 (Nat.le_of_ble_eq_true rfl) ?_
  show qr_W (qe L xs vb) (d + 34) qx_e215 _ (0, [(0, .ref 86)], [], _, 0, 0)
  have hF0 := qFr_rf [(86, 36), (86, 38), (86, 39)] [] σ α
  have hz86_39 : 0 ≤ σ 86 39 ∧ σ 86 39 ≤ 6 := hI.1 86 39
  have hz86_36 : 0 ≤ σ 86 36 ∧ σ 86 36 ≤ 120 := hI.1 86 36
  have hz86_37 : 0 ≤ σ 86 37 ∧ σ 86 37 ≤ 120 := hI.1 86 37
  refine qr_aload_n 1 rfl rfl rfl ?_
  refine qr_callN 4 rfl rfl rfl (sf_216_86o1 (d := d + 0) hI (by omega) (by omega)) ?_
  have hs3 : 0 ≤ σ 86 36 ∧ σ 86 36 ≤ 120 := hI.1 86 36
  have hs4 : 0 ≤ σ 86 37 ∧ σ 86 37 ≤ 120 := hI.1 86 37
  have hs5 : 0 ≤ σ 86 39 ∧ σ 86 39 ≤ 6 := hI.1 86 39
  rintro _ _ ⟨σ6, rfl, hI7, hG8, v1, rfl, hv1, hp2⟩
  have hF9 : qFr [(86, 36), (86, 38), (86, 39)] [] σ α σ6 α := qFr_t hF0 hG8 (by decide) (by decide)
  have hs10 : 0 ≤ σ6 86 36 ∧ σ6 86 36 ≤ 120 := hI7.1 86 36
  have hs11 : 0 ≤ σ6 86 37 ∧ σ6 86 37 ≤ 120 := hI7.1 86 37
  have hs12 : 0 ≤ σ6 86 39 ∧ σ6 86 39 ≤ 6 := hI7.1 86 39
  show qr_W (qe L xs vb) (d + 34) qx_e215 _ (4, _, [.int (qz v1)], qw σ6 α κ ρ, 0, 0)
  refine qr_istore_n _ 5 rfl (by decide) rfl rfl ?_
  refine qr_aload_n 6 rfl rfl rfl ?_
  refine qr_callN 9 rfl rfl rfl (sf_219_86t (d := d + 33) hI7 ) ?_
  have hs15 : 0 ≤ σ6 86 36 ∧ σ6 86 36 ≤ 120 := hI7.1 86 36
  have hs16 : 0 ≤ σ6 86 37 ∧ σ6 86 37 ≤ 120 := hI7.1 86 37
  have hs17 : σ6 86 37 = (σ 86 37) := (hG8.1 86 37 (by decide)).trans rfl
  rintro _ _ ⟨rfl, v13, rfl, hv13, hp14⟩
  show qr_W (qe L xs vb) (d + 34) qx_e215 _ (9, _, [.int (qz v13)], qw σ6 α κ ρ, 0, 0)
  refine qr_istore_n _ 10 rfl (by decide) rfl rfl ?_
  refine qr_aload_n 11 rfl rfl rfl ?_
  refine qr_get 14 rfl rfl rfl (by decide) rfl ?_
  have hs18 : (-1) ≤ σ6 86 38 ∧ σ6 86 38 ≤ 120 := hI7.1 86 38
  refine qr_if_ge 35 17 rfl rfl rfl (by omega) (fun h19 => ?_) (fun h19 => ?_)
  · skip
    refine qr_iload_n 36 rfl rfl rfl ?_
    refine qr_retI rfl rfl (by decide) (by decide) ?_
    have hw20 : σ6 86 36 = (σ6 86 36) := rfl
    have hw21 : σ6 86 37 = (σ 86 37) := (hG8.1 86 37 (by decide)).trans rfl
    have hw22 : σ6 86 39 = (σ6 86 39) := rfl
    exact ⟨_, rfl, hI7, hF9, v1, rfl, by omega, by omega⟩
  · skip
    refine qr_iload_n 18 rfl rfl rfl ?_
    refine qr_bipush 20 rfl (by decide) rfl ?_
    refine qr_icmp_eq 37 23 rfl rfl rfl (by omega) (by omega) (fun h23 => ?_) (fun h23 => ?_)
    · skip
      refine qr_aload_n 38 rfl rfl rfl ?_
      refine qr_dup 39 rfl rfl rfl ?_
      refine qr_get 42 rfl rfl rfl (by decide) rfl ?_
      refine qr_iconst 43 rfl rfl ?_
      refine qr_iadd 44 rfl rfl ?_
      refine qr_put 47 rfl (by decide) rfl (Nat.le_of_ble_eq_true rfl) (Nat.le_of_ble_eq_true rfl) (Or.inl rfl) (qr_fitI rfl _) rfl ?_
      refine qy_wS (qw_s σ6 86 36 ((σ6 86 36) + 1)) rfl (fun σ24 e25 => ?_)
      have hI26 : qI σ24 α κ ρ := by rw [e25]; exact qI_s hI7 86 36 rfl (show 0 ≤ ((σ6 86 36) + 1) ∧ ((σ6 86 36) + 1) ≤ 120 by omega)
      have hF27 : qFr [(86, 36), (86, 38), (86, 39)] [] σ α σ24 α := by rw [e25]; exact qFr_s hF9 86 36 _ (by decide)
      refine qr_aload_n 48 rfl rfl rfl ?_
      refine qr_callN 51 rfl rfl rfl (sf_216_86o1 (d := d + 0) hI26 (by omega) (by omega)) ?_
      have hs30 : 0 ≤ σ24 86 36 ∧ σ24 86 36 ≤ 120 := hI26.1 86 36
      have hs31 : σ24 86 36 = ((σ6 86 36) + 1) := (congrFun (congrFun e25 86) 36).trans rfl
      have hs32 : 0 ≤ σ24 86 37 ∧ σ24 86 37 ≤ 120 := hI26.1 86 37
      have hs33 : σ24 86 37 = (σ 86 37) := (congrFun (congrFun e25 86) 37).trans ((hG8.1 86 37 (by decide)).trans rfl)
      have hs34 : 0 ≤ σ24 86 39 ∧ σ24 86 39 ≤ 6 := hI26.1 86 39
      have hs35 : σ24 86 39 = (σ6 86 39) := (congrFun (congrFun e25 86) 39).trans rfl
      rintro _ _ ⟨σ36, rfl, hI37, hG38, v28, rfl, hv28, hp29⟩
      have hF39 : qFr [(86, 36), (86, 38), (86, 39)] [] σ α σ36 α := qFr_t hF27 hG38 (by decide) (by decide)
      have hs40 : 0 ≤ σ36 86 36 ∧ σ36 86 36 ≤ 120 := hI37.1 86 36
      have hs41 : 0 ≤ σ36 86 37 ∧ σ36 86 37 ≤ 120 := hI37.1 86 37
      have hs42 : 0 ≤ σ36 86 39 ∧ σ36 86 39 ≤ 6 := hI37.1 86 39
      show qr_W (qe L xs vb) (d + 34) qx_e215 _ (51, _, [.int (qz v28)], qw σ36 α κ ρ, 0, 0)
      refine qr_istore_n _ 52 rfl (by decide) rfl rfl ?_
      refine qr_iload_n 53 rfl rfl rfl ?_
      refine qr_bipush 55 rfl (by decide) rfl ?_
      refine qr_icmp_ne 66 58 rfl rfl rfl (by omega) (by omega) (fun h => False.elim (by omega)) (fun h43 => ?_)
      refine qr_iload_n 59 rfl rfl rfl ?_
      refine qr_iload_n 60 rfl rfl rfl ?_
      refine qr_icmp_ge 89 63 rfl rfl rfl (by omega) (by omega) (fun h44 => ?_) (fun h44 => ?_)
      · skip
        refine qr_iconst 90 rfl rfl ?_
        refine qr_retI rfl rfl (by decide) (by decide) ?_
        have hw45 : σ36 86 36 = (σ36 86 36) := rfl
        have hw46 : σ36 86 37 = (σ 86 37) := (hG38.1 86 37 (by decide)).trans ((congrFun (congrFun e25 86) 37).trans ((hG8.1 86 37 (by decide)).trans rfl))
        have hw47 : σ36 86 39 = (σ36 86 39) := rfl
        exact ⟨_, rfl, hI37, hF39, 0, rfl, by omega, by omega⟩
      · skip
        refine qr_goto 85 rfl rfl ?_
        refine qr_iconst 86 rfl rfl ?_
        refine qr_goto 90 rfl rfl ?_
        refine qr_retI rfl rfl (by decide) (by decide) ?_
        have hw48 : σ36 86 36 = (σ36 86 36) := rfl
        have hw49 : σ36 86 37 = (σ 86 37) := (hG38.1 86 37 (by decide)).trans ((congrFun (congrFun e25 86) 37).trans ((hG8.1 86 37 (by decide)).trans rfl))
        have hw50 : σ36 86 39 = (σ36 86 39) := rfl
        exact ⟨_, rfl, hI37, hF39, 1, rfl, by omega, by omega⟩
    · skip
      refine qr_iload_n 24 rfl rfl rfl ?_
      refine qr_bipush 26 rfl (by decide) rfl ?_
      refine qr_icmp_eq 37 29 rfl rfl rfl (by omega) (by omega) (fun h51 => ?_) (fun h51 => ?_)
      · skip
        refine qr_aload_n 38 rfl rfl rfl ?_
        refine qr_dup 39 rfl rfl rfl ?_
        refine qr_get 42 rfl rfl rfl (by decide) rfl ?_
        refine qr_iconst 43 rfl rfl ?_
        refine qr_iadd 44 rfl rfl ?_
        refine qr_put 47 rfl (by decide) rfl (Nat.le_of_ble_eq_true rfl) (Nat.le_of_ble_eq_true rfl) (Or.inl rfl) (qr_fitI rfl _) rfl ?_
        refine qy_wS (qw_s σ6 86 36 ((σ6 86 36) + 1)) rfl (fun σ52 e53 => ?_)
        have hI54 : qI σ52 α κ ρ := by rw [e53]; exact qI_s hI7 86 36 rfl (show 0 ≤ ((σ6 86 36) + 1) ∧ ((σ6 86 36) + 1) ≤ 120 by omega)
        have hF55 : qFr [(86, 36), (86, 38), (86, 39)] [] σ α σ52 α := by rw [e53]; exact qFr_s hF9 86 36 _ (by decide)
        refine qr_aload_n 48 rfl rfl rfl ?_
        refine qr_callN 51 rfl rfl rfl (sf_216_86o1 (d := d + 0) hI54 (by omega) (by omega)) ?_
        have hs58 : 0 ≤ σ52 86 36 ∧ σ52 86 36 ≤ 120 := hI54.1 86 36
        have hs59 : σ52 86 36 = ((σ6 86 36) + 1) := (congrFun (congrFun e53 86) 36).trans rfl
        have hs60 : 0 ≤ σ52 86 37 ∧ σ52 86 37 ≤ 120 := hI54.1 86 37
        have hs61 : σ52 86 37 = (σ 86 37) := (congrFun (congrFun e53 86) 37).trans ((hG8.1 86 37 (by decide)).trans rfl)
        have hs62 : 0 ≤ σ52 86 39 ∧ σ52 86 39 ≤ 6 := hI54.1 86 39
        have hs63 : σ52 86 39 = (σ6 86 39) := (congrFun (congrFun e53 86) 39).trans rfl
        rintro _ _ ⟨σ64, rfl, hI65, hG66, v56, rfl, hv56, hp57⟩
        have hF67 : qFr [(86, 36), (86, 38), (86, 39)] [] σ α σ64 α := qFr_t hF55 hG66 (by decide) (by decide)
        have hs68 : 0 ≤ σ64 86 36 ∧ σ64 86 36 ≤ 120 := hI65.1 86 36
        have hs69 : 0 ≤ σ64 86 37 ∧ σ64 86 37 ≤ 120 := hI65.1 86 37
        have hs70 : 0 ≤ σ64 86 39 ∧ σ64 86 39 ≤ 6 := hI65.1 86 39
        show qr_W (qe L xs vb) (d + 34) qx_e215 _ (51, _, [.int (qz v56)], qw σ64 α κ ρ, 0, 0)
        refine qr_istore_n _ 52 rfl (by decide) rfl rfl ?_
        refine qr_iload_n 53 rfl rfl rfl ?_
        refine qr_bipush 55 rfl (by decide) rfl ?_
        refine qr_icmp_ne 66 58 rfl rfl rfl (by omega) (by omega) (fun h71 => ?_) (fun h => False.elim (by omega))
        refine qr_iload_n 67 rfl rfl rfl ?_
        refine qr_bipush 69 rfl (by decide) rfl ?_
        refine qr_icmp_ne 80 72 rfl rfl rfl (by omega) (by omega) (fun h => False.elim (by omega)) (fun h72 => ?_)
        refine qr_iload_n 73 rfl rfl rfl ?_
        refine qr_iload_n 74 rfl rfl rfl ?_
        refine qr_icmp_ne 89 77 rfl rfl rfl (by omega) (by omega) (fun h73 => ?_) (fun h73 => ?_)
        · skip
          refine qr_iconst 90 rfl rfl ?_
          refine qr_retI rfl rfl (by decide) (by decide) ?_
          have hw74 : σ64 86 36 = (σ64 86 36) := rfl
          have hw75 : σ64 86 37 = (σ 86 37) := (hG66.1 86 37 (by decide)).trans ((congrFun (congrFun e53 86) 37).trans ((hG8.1 86 37 (by decide)).trans rfl))
          have hw76 : σ64 86 39 = (σ64 86 39) := rfl
          exact ⟨_, rfl, hI65, hF67, 0, rfl, by omega, by omega⟩
        · skip
          refine qr_goto 85 rfl rfl ?_
          refine qr_iconst 86 rfl rfl ?_
          refine qr_goto 90 rfl rfl ?_
          refine qr_retI rfl rfl (by decide) (by decide) ?_
          have hw77 : σ64 86 36 = (σ64 86 36) := rfl
          have hw78 : σ64 86 37 = (σ 86 37) := (hG66.1 86 37 (by decide)).trans ((congrFun (congrFun e53 86) 37).trans ((hG8.1 86 37 (by decide)).trans rfl))
          have hw79 : σ64 86 39 = (σ64 86 39) := rfl
          exact ⟨_, rfl, hI65, hF67, 1, rfl, by omega, by omega⟩
      · skip
        refine qr_iload_n 30 rfl rfl rfl ?_
        refine qr_bipush 32 rfl (by decide) rfl ?_
        refine qr_icmp_eq 37 35 rfl rfl rfl (by omega) (by omega) (fun h80 => ?_) (fun h80 => ?_)
        · skip
          refine qr_aload_n 38 rfl rfl rfl ?_
          refine qr_dup 39 rfl rfl rfl ?_
          refine qr_get 42 rfl rfl rfl (by decide) rfl ?_
          refine qr_iconst 43 rfl rfl ?_
          refine qr_iadd 44 rfl rfl ?_
          refine qr_put 47 rfl (by decide) rfl (Nat.le_of_ble_eq_true rfl) (Nat.le_of_ble_eq_true rfl) (Or.inl rfl) (qr_fitI rfl _) rfl ?_
          refine qy_wS (qw_s σ6 86 36 ((σ6 86 36) + 1)) rfl (fun σ81 e82 => ?_)
          have hI83 : qI σ81 α κ ρ := by rw [e82]; exact qI_s hI7 86 36 rfl (show 0 ≤ ((σ6 86 36) + 1) ∧ ((σ6 86 36) + 1) ≤ 120 by omega)
          have hF84 : qFr [(86, 36), (86, 38), (86, 39)] [] σ α σ81 α := by rw [e82]; exact qFr_s hF9 86 36 _ (by decide)
          refine qr_aload_n 48 rfl rfl rfl ?_
          refine qr_callN 51 rfl rfl rfl (sf_216_86o1 (d := d + 0) hI83 (by omega) (by omega)) ?_
          have hs87 : 0 ≤ σ81 86 36 ∧ σ81 86 36 ≤ 120 := hI83.1 86 36
          have hs88 : σ81 86 36 = ((σ6 86 36) + 1) := (congrFun (congrFun e82 86) 36).trans rfl
          have hs89 : 0 ≤ σ81 86 37 ∧ σ81 86 37 ≤ 120 := hI83.1 86 37
          have hs90 : σ81 86 37 = (σ 86 37) := (congrFun (congrFun e82 86) 37).trans ((hG8.1 86 37 (by decide)).trans rfl)
          have hs91 : 0 ≤ σ81 86 39 ∧ σ81 86 39 ≤ 6 := hI83.1 86 39
          have hs92 : σ81 86 39 = (σ6 86 39) := (congrFun (congrFun e82 86) 39).trans rfl
          rintro _ _ ⟨σ93, rfl, hI94, hG95, v85, rfl, hv85, hp86⟩
          have hF96 : qFr [(86, 36), (86, 38), (86, 39)] [] σ α σ93 α := qFr_t hF84 hG95 (by decide) (by decide)
          have hs97 : 0 ≤ σ93 86 36 ∧ σ93 86 36 ≤ 120 := hI94.1 86 36
          have hs98 : 0 ≤ σ93 86 37 ∧ σ93 86 37 ≤ 120 := hI94.1 86 37
          have hs99 : 0 ≤ σ93 86 39 ∧ σ93 86 39 ≤ 6 := hI94.1 86 39
          show qr_W (qe L xs vb) (d + 34) qx_e215 _ (51, _, [.int (qz v85)], qw σ93 α κ ρ, 0, 0)
          refine qr_istore_n _ 52 rfl (by decide) rfl rfl ?_
          refine qr_iload_n 53 rfl rfl rfl ?_
          refine qr_bipush 55 rfl (by decide) rfl ?_
          refine qr_icmp_ne 66 58 rfl rfl rfl (by omega) (by omega) (fun h100 => ?_) (fun h => False.elim (by omega))
          refine qr_iload_n 67 rfl rfl rfl ?_
          refine qr_bipush 69 rfl (by decide) rfl ?_
          refine qr_icmp_ne 80 72 rfl rfl rfl (by omega) (by omega) (fun h101 => ?_) (fun h => False.elim (by omega))
          refine qr_iload_n 81 rfl rfl rfl ?_
          refine qr_iload_n 82 rfl rfl rfl ?_
          refine qr_icmp_le 89 85 rfl rfl rfl (by omega) (by omega) (fun h102 => ?_) (fun h102 => ?_)
          · skip
            refine qr_iconst 90 rfl rfl ?_
            refine qr_retI rfl rfl (by decide) (by decide) ?_
            have hw103 : σ93 86 36 = (σ93 86 36) := rfl
            have hw104 : σ93 86 37 = (σ 86 37) := (hG95.1 86 37 (by decide)).trans ((congrFun (congrFun e82 86) 37).trans ((hG8.1 86 37 (by decide)).trans rfl))
            have hw105 : σ93 86 39 = (σ93 86 39) := rfl
            exact ⟨_, rfl, hI94, hF96, 0, rfl, by omega, by omega⟩
          · skip
            refine qr_iconst 86 rfl rfl ?_
            refine qr_goto 90 rfl rfl ?_
            refine qr_retI rfl rfl (by decide) (by decide) ?_
            have hw106 : σ93 86 36 = (σ93 86 36) := rfl
            have hw107 : σ93 86 37 = (σ 86 37) := (hG95.1 86 37 (by decide)).trans ((congrFun (congrFun e82 86) 37).trans ((hG8.1 86 37 (by decide)).trans rfl))
            have hw108 : σ93 86 39 = (σ93 86 39) := rfl
            exact ⟨_, rfl, hI94, hF96, 1, rfl, by omega, by omega⟩
        · skip
          refine qr_iload_n 36 rfl rfl rfl ?_
          refine qr_retI rfl rfl (by decide) (by decide) ?_
          have hw109 : σ6 86 36 = (σ6 86 36) := rfl
          have hw110 : σ6 86 37 = (σ 86 37) := (hG8.1 86 37 (by decide)).trans rfl
          have hw111 : σ6 86 39 = (σ6 86 39) := rfl
          exact ⟨_, rfl, hI7, hF9, v1, rfl, by omega, by omega⟩

set_option maxHeartbeats 4000000 in
set_option maxRecDepth 20000 in
/-- OneRoofModel.both -/
theorem sf_214_86o1 {L : Nat} {xs : Nat → Int} {vb : Bool} {d : Nat} {σ α : Nat → Nat → Int} {κ : Nat → Option Nat} {ρ : Nat}  (hI : qI σ α κ ρ) (p0 : 1 ≤ σ 86 39) (p1 : σ 86 36 ≤ σ 86 37) : qm_T (qe L xs vb) (d + 36) 214 [.ref 86] (qw σ α κ ρ) (fun r w' => ∃ σ', w' = qw σ' α κ ρ ∧ qI σ' α κ ρ ∧ qFr [(86, 36), (86, 38), (86, 39)] [] σ α σ' α ∧ ∃ v : Int, r = some (.int (qz v)) ∧ ((-2147483648) ≤ v ∧ v ≤ 2147483647) ∧ σ 86 39 ≤ σ' 86 39 ∧ σ 86 36 ≤ σ' 86 36 ∧ σ' 86 36 ≤ σ' 86 37 ∧ σ' 86 37 = σ 86 37) := by
  refine qr_start (d := d + 35) qv_e214 (Nat.le_of_ble_eq_true rfl) ?_
  show qr_W (qe L xs vb) (d + 35) qx_e214 _ (0, [(0, .ref 86)], [], _, 0, 0)
  have hF0 := qFr_rf [(86, 36), (86, 38), (86, 39)] [] σ α
  have hz86_39 : 0 ≤ σ 86 39 ∧ σ 86 39 ≤ 6 := hI.1 86 39
  have hz86_36 : 0 ≤ σ 86 36 ∧ σ 86 36 ≤ 120 := hI.1 86 36
  have hz86_37 : 0 ≤ σ 86 37 ∧ σ 86 37 ≤ 120 := hI.1 86 37
  refine qr_aload_n 1 rfl rfl rfl ?_
  refine qr_callN 4 rfl rfl rfl (sf_215_86o1 (d := d + 0) hI (by omega) (by omega)) ?_
  have hs3 : 0 ≤ σ 86 36 ∧ σ 86 36 ≤ 120 := hI.1 86 36
  have hs4 : 0 ≤ σ 86 37 ∧ σ 86 37 ≤ 120 := hI.1 86 37
  have hs5 : 0 ≤ σ 86 39 ∧ σ 86 39 ≤ 6 := hI.1 86 39
  rintro _ _ ⟨σ6, rfl, hI7, hG8, v1, rfl, hv1, hp2⟩
  have hF9 : qFr [(86, 36), (86, 38), (86, 39)] [] σ α σ6 α := qFr_t hF0 hG8 (by decide) (by decide)
  have hs10 : 0 ≤ σ6 86 36 ∧ σ6 86 36 ≤ 120 := hI7.1 86 36
  have hs11 : 0 ≤ σ6 86 37 ∧ σ6 86 37 ≤ 120 := hI7.1 86 37
  have hs12 : 0 ≤ σ6 86 39 ∧ σ6 86 39 ≤ 6 := hI7.1 86 39
  show qr_W (qe L xs vb) (d + 35) qx_e214 _ (4, _, [.int (qz v1)], qw σ6 α κ ρ, 0, 0)
  refine qr_istore_n _ 5 rfl (by decide) rfl rfl ?_
  have hL139 : ∀ (n : Nat) (ls : qm_L) (u127 : Int) (σ128 : Nat → Nat → Int), ((120 - σ128 86 36).toNat : Int) < (n : Int) → qm_get ls 0 = some (.ref 86) → qm_get ls 1 = some (.int (qz u127)) → ((-2147483648) ≤ u127 ∧ u127 ≤ 2147483647) → qI σ128 α κ ρ → qFr [(86, 36), (86, 38), (86, 39)] [] σ α σ128 α → σ128 86 37 = (σ 86 37) → 1 ≤ σ128 86 39 → σ 86 39 ≤ σ128 86 39 → σ 86 36 ≤ σ128 86 36 → σ128 86 36 ≤ σ128 86 37 → σ128 86 37 = σ 86 37 → qr_W (qe L xs vb) (d + 35) qx_e214 (fun r w' => ∃ σ', w' = qw σ' α κ ρ ∧ qI σ' α κ ρ ∧ qFr [(86, 36), (86, 38), (86, 39)] [] σ α σ' α ∧ ∃ v : Int, r = some (.int (qz v)) ∧ ((-2147483648) ≤ v ∧ v ≤ 2147483647) ∧ σ 86 39 ≤ σ' 86 39 ∧ σ 86 36 ≤ σ' 86 36 ∧ σ' 86 36 ≤ σ' 86 37 ∧ σ' 86 37 = σ 86 37) (5, ls, [], qw σ128 α κ ρ, 0, 0) := by
    intro n
    induction n with
    | zero => intro ls u127 σ128 hm g125 g126 hf133 hI130 hF131 hk132 hx134 hx135 hx136 hx137 hx138; exact False.elim (by omega)
    | succ n ih140 =>
      intro ls u127 σ128 hm g125 g126 hf133 hI130 hF131 hk132 hx134 hx135 hx136 hx137 hx138
      have hs141 : 0 ≤ σ128 86 39 ∧ σ128 86 39 ≤ 6 := hI130.1 86 39
      have hs142 : 0 ≤ σ128 86 36 ∧ σ128 86 36 ≤ 120 := hI130.1 86 36
      have hs143 : 0 ≤ σ128 86 37 ∧ σ128 86 37 ≤ 120 := hI130.1 86 37
      refine qr_aload_n 6 rfl g125 rfl ?_
      refine qr_bipush 8 rfl (by decide) rfl ?_
      refine qr_callN 11 rfl rfl rfl (sf_221_86t (d := d + 33) hI130 (by omega) (by omega)) ?_
      have hs146 : 0 ≤ σ128 86 36 ∧ σ128 86 36 ≤ 120 := hI130.1 86 36
      have hs147 : 0 ≤ σ128 86 37 ∧ σ128 86 37 ≤ 120 := hI130.1 86 37
      rintro _ _ ⟨σ148, rfl, hI149, hG150, v144, rfl, hv144, hp145⟩
      have hF151 : qFr [(86, 36), (86, 38), (86, 39)] [] σ α σ148 α := qFr_t hF131 hG150 (by decide) (by decide)
      have hs152 : 0 ≤ σ148 86 36 ∧ σ148 86 36 ≤ 120 := hI149.1 86 36
      show qr_W (qe L xs vb) (d + 35) qx_e214 _ (11, _, [.int (qz v144)], qw σ148 α κ ρ, 0, 0)
      refine qr_if_eq 36 14 rfl rfl rfl (by omega) (fun h153 => ?_) (fun h153 => ?_)
      · skip
        refine qr_iload_n 37 rfl g126 rfl ?_
        refine qr_retI rfl rfl (by decide) (by decide) ?_
        have hw154 : σ148 86 36 = (σ148 86 36) := rfl
        have hw155 : σ148 86 37 = (σ128 86 37) := (hG150.1 86 37 (by decide)).trans rfl
        have hw156 : σ148 86 39 = (σ128 86 39) := (hG150.1 86 39 (by decide)).trans rfl
        exact ⟨_, rfl, hI149, hF151, u127, rfl, by omega, by omega⟩
      · skip
        refine qr_aload_n 15 rfl g125 rfl ?_
        refine qr_callN 18 rfl rfl rfl (sf_215_86o1 (d := d + 0) hI149 (by omega) (by omega)) ?_
        have hs159 : 0 ≤ σ148 86 36 ∧ σ148 86 36 ≤ 120 := hI149.1 86 36
        have hs160 : 0 ≤ σ148 86 37 ∧ σ148 86 37 ≤ 120 := hI149.1 86 37
        have hs161 : σ148 86 37 = (σ128 86 37) := (hG150.1 86 37 (by decide)).trans rfl
        have hs162 : 0 ≤ σ148 86 39 ∧ σ148 86 39 ≤ 6 := hI149.1 86 39
        have hs163 : σ148 86 39 = (σ128 86 39) := (hG150.1 86 39 (by decide)).trans rfl
        rintro _ _ ⟨σ164, rfl, hI165, hG166, v157, rfl, hv157, hp158⟩
        have hF167 : qFr [(86, 36), (86, 38), (86, 39)] [] σ α σ164 α := qFr_t hF151 hG166 (by decide) (by decide)
        have hs168 : 0 ≤ σ164 86 36 ∧ σ164 86 36 ≤ 120 := hI165.1 86 36
        have hs169 : 0 ≤ σ164 86 37 ∧ σ164 86 37 ≤ 120 := hI165.1 86 37
        have hs170 : 0 ≤ σ164 86 39 ∧ σ164 86 39 ≤ 6 := hI165.1 86 39
        show qr_W (qe L xs vb) (d + 35) qx_e214 _ (18, _, [.int (qz v157)], qw σ164 α κ ρ, 0, 0)
        refine qr_istore_n _ 19 rfl (by decide) rfl rfl ?_
        refine qr_iload_n 20 rfl (qm_gk g126 (by decide) (Or.inr rfl)) rfl ?_
        refine qr_if_eq 31 23 rfl rfl rfl (by omega) (fun h171 => ?_) (fun h171 => ?_)
        · skip
          refine qr_iconst 32 rfl rfl ?_
          refine qr_istore_n _ 33 rfl (by decide) rfl rfl ?_
          refine qr_goto 5 rfl rfl ?_
          exact ih140 _ 0 σ164 (by omega) (qm_gk (qm_gk g125 (by decide) (Or.inl (by decide))) (by decide) (Or.inr rfl)) (qm_ge _ _ _) (by omega) hI165 hF167 ((hG166.1 86 37 (by decide)).trans ((hG150.1 86 37 (by decide)).trans rfl)) (by have hw0 : σ164 86 39 = (σ164 86 39) := rfl; have hw1 : σ164 86 36 = (σ164 86 36) := rfl; have hw2 : σ164 86 37 = (σ128 86 37) := (hG166.1 86 37 (by decide)).trans ((hG150.1 86 37 (by decide)).trans rfl); omega) (by have hw0 : σ164 86 39 = (σ164 86 39) := rfl; have hw1 : σ164 86 36 = (σ164 86 36) := rfl; have hw2 : σ164 86 37 = (σ128 86 37) := (hG166.1 86 37 (by decide)).trans ((hG150.1 86 37 (by decide)).trans rfl); omega) (by have hw0 : σ164 86 39 = (σ164 86 39) := rfl; have hw1 : σ164 86 36 = (σ164 86 36) := rfl; have hw2 : σ164 86 37 = (σ128 86 37) := (hG166.1 86 37 (by decide)).trans ((hG150.1 86 37 (by decide)).trans rfl); omega) (by have hw0 : σ164 86 39 = (σ164 86 39) := rfl; have hw1 : σ164 86 36 = (σ164 86 36) := rfl; have hw2 : σ164 86 37 = (σ128 86 37) := (hG166.1 86 37 (by decide)).trans ((hG150.1 86 37 (by decide)).trans rfl); omega) (by have hw0 : σ164 86 39 = (σ164 86 39) := rfl; have hw1 : σ164 86 36 = (σ164 86 36) := rfl; have hw2 : σ164 86 37 = (σ128 86 37) := (hG166.1 86 37 (by decide)).trans ((hG150.1 86 37 (by decide)).trans rfl); omega)
        · skip
          refine qr_iload_n 24 rfl (qm_ge _ _ _) rfl ?_
          refine qr_if_eq 31 27 rfl rfl rfl (by omega) (fun h172 => ?_) (fun h172 => ?_)
          · skip
            refine qr_iconst 32 rfl rfl ?_
            refine qr_istore_n _ 33 rfl (by decide) rfl rfl ?_
            refine qr_goto 5 rfl rfl ?_
            exact ih140 _ 0 σ164 (by omega) (qm_gk (qm_gk g125 (by decide) (Or.inl (by decide))) (by decide) (Or.inr rfl)) (qm_ge _ _ _) (by omega) hI165 hF167 ((hG166.1 86 37 (by decide)).trans ((hG150.1 86 37 (by decide)).trans rfl)) (by have hw0 : σ164 86 39 = (σ164 86 39) := rfl; have hw1 : σ164 86 36 = (σ164 86 36) := rfl; have hw2 : σ164 86 37 = (σ128 86 37) := (hG166.1 86 37 (by decide)).trans ((hG150.1 86 37 (by decide)).trans rfl); omega) (by have hw0 : σ164 86 39 = (σ164 86 39) := rfl; have hw1 : σ164 86 36 = (σ164 86 36) := rfl; have hw2 : σ164 86 37 = (σ128 86 37) := (hG166.1 86 37 (by decide)).trans ((hG150.1 86 37 (by decide)).trans rfl); omega) (by have hw0 : σ164 86 39 = (σ164 86 39) := rfl; have hw1 : σ164 86 36 = (σ164 86 36) := rfl; have hw2 : σ164 86 37 = (σ128 86 37) := (hG166.1 86 37 (by decide)).trans ((hG150.1 86 37 (by decide)).trans rfl); omega) (by have hw0 : σ164 86 39 = (σ164 86 39) := rfl; have hw1 : σ164 86 36 = (σ164 86 36) := rfl; have hw2 : σ164 86 37 = (σ128 86 37) := (hG166.1 86 37 (by decide)).trans ((hG150.1 86 37 (by decide)).trans rfl); omega) (by have hw0 : σ164 86 39 = (σ164 86 39) := rfl; have hw1 : σ164 86 36 = (σ164 86 36) := rfl; have hw2 : σ164 86 37 = (σ128 86 37) := (hG166.1 86 37 (by decide)).trans ((hG150.1 86 37 (by decide)).trans rfl); omega)
          · skip
            refine qr_iconst 28 rfl rfl ?_
            refine qr_goto 32 rfl rfl ?_
            refine qr_istore_n _ 33 rfl (by decide) rfl rfl ?_
            refine qr_goto 5 rfl rfl ?_
            exact ih140 _ 1 σ164 (by omega) (qm_gk (qm_gk g125 (by decide) (Or.inl (by decide))) (by decide) (Or.inr rfl)) (qm_ge _ _ _) (by omega) hI165 hF167 ((hG166.1 86 37 (by decide)).trans ((hG150.1 86 37 (by decide)).trans rfl)) (by have hw0 : σ164 86 39 = (σ164 86 39) := rfl; have hw1 : σ164 86 36 = (σ164 86 36) := rfl; have hw2 : σ164 86 37 = (σ128 86 37) := (hG166.1 86 37 (by decide)).trans ((hG150.1 86 37 (by decide)).trans rfl); omega) (by have hw0 : σ164 86 39 = (σ164 86 39) := rfl; have hw1 : σ164 86 36 = (σ164 86 36) := rfl; have hw2 : σ164 86 37 = (σ128 86 37) := (hG166.1 86 37 (by decide)).trans ((hG150.1 86 37 (by decide)).trans rfl); omega) (by have hw0 : σ164 86 39 = (σ164 86 39) := rfl; have hw1 : σ164 86 36 = (σ164 86 36) := rfl; have hw2 : σ164 86 37 = (σ128 86 37) := (hG166.1 86 37 (by decide)).trans ((hG150.1 86 37 (by decide)).trans rfl); omega) (by have hw0 : σ164 86 39 = (σ164 86 39) := rfl; have hw1 : σ164 86 36 = (σ164 86 36) := rfl; have hw2 : σ164 86 37 = (σ128 86 37) := (hG166.1 86 37 (by decide)).trans ((hG150.1 86 37 (by decide)).trans rfl); omega) (by have hw0 : σ164 86 39 = (σ164 86 39) := rfl; have hw1 : σ164 86 36 = (σ164 86 36) := rfl; have hw2 : σ164 86 37 = (σ128 86 37) := (hG166.1 86 37 (by decide)).trans ((hG150.1 86 37 (by decide)).trans rfl); omega)
  exact hL139 ((((120 - σ6 86 36).toNat : Int) + 1 : Int)).toNat _ v1 σ6 (by omega) rfl rfl (by omega) hI7 hF9 ((hG8.1 86 37 (by decide)).trans rfl) (by have hw0 : σ6 86 39 = (σ6 86 39) := rfl; have hw1 : σ6 86 36 = (σ6 86 36) := rfl; have hw2 : σ6 86 37 = (σ 86 37) := (hG8.1 86 37 (by decide)).trans rfl; omega) (by have hw0 : σ6 86 39 = (σ6 86 39) := rfl; have hw1 : σ6 86 36 = (σ6 86 36) := rfl; have hw2 : σ6 86 37 = (σ 86 37) := (hG8.1 86 37 (by decide)).trans rfl; omega) (by have hw0 : σ6 86 39 = (σ6 86 39) := rfl; have hw1 : σ6 86 36 = (σ6 86 36) := rfl; have hw2 : σ6 86 37 = (σ 86 37) := (hG8.1 86 37 (by decide)).trans rfl; omega) (by have hw0 : σ6 86 39 = (σ6 86 39) := rfl; have hw1 : σ6 86 36 = (σ6 86 36) := rfl; have hw2 : σ6 86 37 = (σ 86 37) := (hG8.1 86 37 (by decide)).trans rfl; omega) (by have hw0 : σ6 86 39 = (σ6 86 39) := rfl; have hw1 : σ6 86 36 = (σ6 86 36) := rfl; have hw2 : σ6 86 37 = (σ 86 37) := (hG8.1 86 37 (by decide)).trans rfl; omega)

set_option maxHeartbeats 4000000 in
set_option maxRecDepth 20000 in
/-- OneRoofModel.either -/
theorem sf_213_86o1 {L : Nat} {xs : Nat → Int} {vb : Bool} {d : Nat} {σ α : Nat → Nat → Int} {κ : Nat → Option Nat} {ρ : Nat}  (hI : qI σ α κ ρ) (p0 : 1 ≤ σ 86 39) (p1 : σ 86 36 ≤ σ 86 37) : qm_T (qe L xs vb) (d + 37) 213 [.ref 86] (qw σ α κ ρ) (fun r w' => ∃ σ', w' = qw σ' α κ ρ ∧ qI σ' α κ ρ ∧ qFr [(86, 36), (86, 38), (86, 39)] [] σ α σ' α ∧ ∃ v : Int, r = some (.int (qz v)) ∧ ((-2147483648) ≤ v ∧ v ≤ 2147483647) ∧ σ 86 39 ≤ σ' 86 39 ∧ σ 86 36 ≤ σ' 86 36 ∧ σ' 86 36 ≤ σ' 86 37 ∧ σ' 86 37 = σ 86 37) := by
  refine qr_start (d := d + 36) qv_e213 (Nat.le_of_ble_eq_true rfl) ?_
  show qr_W (qe L xs vb) (d + 36) qx_e213 _ (0, [(0, .ref 86)], [], _, 0, 0)
  have hF0 := qFr_rf [(86, 36), (86, 38), (86, 39)] [] σ α
  have hz86_39 : 0 ≤ σ 86 39 ∧ σ 86 39 ≤ 6 := hI.1 86 39
  have hz86_36 : 0 ≤ σ 86 36 ∧ σ 86 36 ≤ 120 := hI.1 86 36
  have hz86_37 : 0 ≤ σ 86 37 ∧ σ 86 37 ≤ 120 := hI.1 86 37
  refine qr_aload_n 1 rfl rfl rfl ?_
  refine qr_callN 4 rfl rfl rfl (sf_214_86o1 (d := d + 0) hI (by omega) (by omega)) ?_
  have hs3 : 0 ≤ σ 86 36 ∧ σ 86 36 ≤ 120 := hI.1 86 36
  have hs4 : 0 ≤ σ 86 37 ∧ σ 86 37 ≤ 120 := hI.1 86 37
  have hs5 : 0 ≤ σ 86 39 ∧ σ 86 39 ≤ 6 := hI.1 86 39
  rintro _ _ ⟨σ6, rfl, hI7, hG8, v1, rfl, hv1, hp2⟩
  have hF9 : qFr [(86, 36), (86, 38), (86, 39)] [] σ α σ6 α := qFr_t hF0 hG8 (by decide) (by decide)
  have hs10 : 0 ≤ σ6 86 36 ∧ σ6 86 36 ≤ 120 := hI7.1 86 36
  have hs11 : 0 ≤ σ6 86 37 ∧ σ6 86 37 ≤ 120 := hI7.1 86 37
  have hs12 : 0 ≤ σ6 86 39 ∧ σ6 86 39 ≤ 6 := hI7.1 86 39
  show qr_W (qe L xs vb) (d + 36) qx_e213 _ (4, _, [.int (qz v1)], qw σ6 α κ ρ, 0, 0)
  refine qr_istore_n _ 5 rfl (by decide) rfl rfl ?_
  have hL139 : ∀ (n : Nat) (ls : qm_L) (u127 : Int) (σ128 : Nat → Nat → Int), ((120 - σ128 86 36).toNat : Int) < (n : Int) → qm_get ls 0 = some (.ref 86) → qm_get ls 1 = some (.int (qz u127)) → ((-2147483648) ≤ u127 ∧ u127 ≤ 2147483647) → qI σ128 α κ ρ → qFr [(86, 36), (86, 38), (86, 39)] [] σ α σ128 α → σ128 86 37 = (σ 86 37) → 1 ≤ σ128 86 39 → σ 86 39 ≤ σ128 86 39 → σ 86 36 ≤ σ128 86 36 → σ128 86 36 ≤ σ128 86 37 → σ128 86 37 = σ 86 37 → qr_W (qe L xs vb) (d + 36) qx_e213 (fun r w' => ∃ σ', w' = qw σ' α κ ρ ∧ qI σ' α κ ρ ∧ qFr [(86, 36), (86, 38), (86, 39)] [] σ α σ' α ∧ ∃ v : Int, r = some (.int (qz v)) ∧ ((-2147483648) ≤ v ∧ v ≤ 2147483647) ∧ σ 86 39 ≤ σ' 86 39 ∧ σ 86 36 ≤ σ' 86 36 ∧ σ' 86 36 ≤ σ' 86 37 ∧ σ' 86 37 = σ 86 37) (5, ls, [], qw σ128 α κ ρ, 0, 0) := by
    intro n
    induction n with
    | zero => intro ls u127 σ128 hm g125 g126 hf133 hI130 hF131 hk132 hx134 hx135 hx136 hx137 hx138; exact False.elim (by omega)
    | succ n ih140 =>
      intro ls u127 σ128 hm g125 g126 hf133 hI130 hF131 hk132 hx134 hx135 hx136 hx137 hx138
      have hs141 : 0 ≤ σ128 86 39 ∧ σ128 86 39 ≤ 6 := hI130.1 86 39
      have hs142 : 0 ≤ σ128 86 36 ∧ σ128 86 36 ≤ 120 := hI130.1 86 36
      have hs143 : 0 ≤ σ128 86 37 ∧ σ128 86 37 ≤ 120 := hI130.1 86 37
      refine qr_aload_n 6 rfl g125 rfl ?_
      refine qr_bipush 8 rfl (by decide) rfl ?_
      refine qr_callN 11 rfl rfl rfl (sf_221_86t (d := d + 34) hI130 (by omega) (by omega)) ?_
      have hs146 : 0 ≤ σ128 86 36 ∧ σ128 86 36 ≤ 120 := hI130.1 86 36
      have hs147 : 0 ≤ σ128 86 37 ∧ σ128 86 37 ≤ 120 := hI130.1 86 37
      rintro _ _ ⟨σ148, rfl, hI149, hG150, v144, rfl, hv144, hp145⟩
      have hF151 : qFr [(86, 36), (86, 38), (86, 39)] [] σ α σ148 α := qFr_t hF131 hG150 (by decide) (by decide)
      have hs152 : 0 ≤ σ148 86 36 ∧ σ148 86 36 ≤ 120 := hI149.1 86 36
      show qr_W (qe L xs vb) (d + 36) qx_e213 _ (11, _, [.int (qz v144)], qw σ148 α κ ρ, 0, 0)
      refine qr_if_eq 36 14 rfl rfl rfl (by omega) (fun h153 => ?_) (fun h153 => ?_)
      · skip
        refine qr_iload_n 37 rfl g126 rfl ?_
        refine qr_retI rfl rfl (by decide) (by decide) ?_
        have hw154 : σ148 86 36 = (σ148 86 36) := rfl
        have hw155 : σ148 86 37 = (σ128 86 37) := (hG150.1 86 37 (by decide)).trans rfl
        have hw156 : σ148 86 39 = (σ128 86 39) := (hG150.1 86 39 (by decide)).trans rfl
        exact ⟨_, rfl, hI149, hF151, u127, rfl, by omega, by omega⟩
      · skip
        refine qr_aload_n 15 rfl g125 rfl ?_
        refine qr_callN 18 rfl rfl rfl (sf_214_86o1 (d := d + 0) hI149 (by omega) (by omega)) ?_
        have hs159 : 0 ≤ σ148 86 36 ∧ σ148 86 36 ≤ 120 := hI149.1 86 36
        have hs160 : 0 ≤ σ148 86 37 ∧ σ148 86 37 ≤ 120 := hI149.1 86 37
        have hs161 : σ148 86 37 = (σ128 86 37) := (hG150.1 86 37 (by decide)).trans rfl
        have hs162 : 0 ≤ σ148 86 39 ∧ σ148 86 39 ≤ 6 := hI149.1 86 39
        have hs163 : σ148 86 39 = (σ128 86 39) := (hG150.1 86 39 (by decide)).trans rfl
        rintro _ _ ⟨σ164, rfl, hI165, hG166, v157, rfl, hv157, hp158⟩
        have hF167 : qFr [(86, 36), (86, 38), (86, 39)] [] σ α σ164 α := qFr_t hF151 hG166 (by decide) (by decide)
        have hs168 : 0 ≤ σ164 86 36 ∧ σ164 86 36 ≤ 120 := hI165.1 86 36
        have hs169 : 0 ≤ σ164 86 37 ∧ σ164 86 37 ≤ 120 := hI165.1 86 37
        have hs170 : 0 ≤ σ164 86 39 ∧ σ164 86 39 ≤ 6 := hI165.1 86 39
        show qr_W (qe L xs vb) (d + 36) qx_e213 _ (18, _, [.int (qz v157)], qw σ164 α κ ρ, 0, 0)
        refine qr_istore_n _ 19 rfl (by decide) rfl rfl ?_
        refine qr_iload_n 20 rfl (qm_gk g126 (by decide) (Or.inr rfl)) rfl ?_
        refine qr_if_ne 27 23 rfl rfl rfl (by omega) (fun h171 => ?_) (fun h171 => ?_)
        · skip
          refine qr_iconst 28 rfl rfl ?_
          refine qr_goto 32 rfl rfl ?_
          refine qr_istore_n _ 33 rfl (by decide) rfl rfl ?_
          refine qr_goto 5 rfl rfl ?_
          exact ih140 _ 1 σ164 (by omega) (qm_gk (qm_gk g125 (by decide) (Or.inl (by decide))) (by decide) (Or.inr rfl)) (qm_ge _ _ _) (by omega) hI165 hF167 ((hG166.1 86 37 (by decide)).trans ((hG150.1 86 37 (by decide)).trans rfl)) (by have hw0 : σ164 86 39 = (σ164 86 39) := rfl; have hw1 : σ164 86 36 = (σ164 86 36) := rfl; have hw2 : σ164 86 37 = (σ128 86 37) := (hG166.1 86 37 (by decide)).trans ((hG150.1 86 37 (by decide)).trans rfl); omega) (by have hw0 : σ164 86 39 = (σ164 86 39) := rfl; have hw1 : σ164 86 36 = (σ164 86 36) := rfl; have hw2 : σ164 86 37 = (σ128 86 37) := (hG166.1 86 37 (by decide)).trans ((hG150.1 86 37 (by decide)).trans rfl); omega) (by have hw0 : σ164 86 39 = (σ164 86 39) := rfl; have hw1 : σ164 86 36 = (σ164 86 36) := rfl; have hw2 : σ164 86 37 = (σ128 86 37) := (hG166.1 86 37 (by decide)).trans ((hG150.1 86 37 (by decide)).trans rfl); omega) (by have hw0 : σ164 86 39 = (σ164 86 39) := rfl; have hw1 : σ164 86 36 = (σ164 86 36) := rfl; have hw2 : σ164 86 37 = (σ128 86 37) := (hG166.1 86 37 (by decide)).trans ((hG150.1 86 37 (by decide)).trans rfl); omega) (by have hw0 : σ164 86 39 = (σ164 86 39) := rfl; have hw1 : σ164 86 36 = (σ164 86 36) := rfl; have hw2 : σ164 86 37 = (σ128 86 37) := (hG166.1 86 37 (by decide)).trans ((hG150.1 86 37 (by decide)).trans rfl); omega)
        · skip
          refine qr_iload_n 24 rfl (qm_ge _ _ _) rfl ?_
          refine qr_if_eq 31 27 rfl rfl rfl (by omega) (fun h172 => ?_) (fun h172 => ?_)
          · skip
            refine qr_iconst 32 rfl rfl ?_
            refine qr_istore_n _ 33 rfl (by decide) rfl rfl ?_
            refine qr_goto 5 rfl rfl ?_
            exact ih140 _ 0 σ164 (by omega) (qm_gk (qm_gk g125 (by decide) (Or.inl (by decide))) (by decide) (Or.inr rfl)) (qm_ge _ _ _) (by omega) hI165 hF167 ((hG166.1 86 37 (by decide)).trans ((hG150.1 86 37 (by decide)).trans rfl)) (by have hw0 : σ164 86 39 = (σ164 86 39) := rfl; have hw1 : σ164 86 36 = (σ164 86 36) := rfl; have hw2 : σ164 86 37 = (σ128 86 37) := (hG166.1 86 37 (by decide)).trans ((hG150.1 86 37 (by decide)).trans rfl); omega) (by have hw0 : σ164 86 39 = (σ164 86 39) := rfl; have hw1 : σ164 86 36 = (σ164 86 36) := rfl; have hw2 : σ164 86 37 = (σ128 86 37) := (hG166.1 86 37 (by decide)).trans ((hG150.1 86 37 (by decide)).trans rfl); omega) (by have hw0 : σ164 86 39 = (σ164 86 39) := rfl; have hw1 : σ164 86 36 = (σ164 86 36) := rfl; have hw2 : σ164 86 37 = (σ128 86 37) := (hG166.1 86 37 (by decide)).trans ((hG150.1 86 37 (by decide)).trans rfl); omega) (by have hw0 : σ164 86 39 = (σ164 86 39) := rfl; have hw1 : σ164 86 36 = (σ164 86 36) := rfl; have hw2 : σ164 86 37 = (σ128 86 37) := (hG166.1 86 37 (by decide)).trans ((hG150.1 86 37 (by decide)).trans rfl); omega) (by have hw0 : σ164 86 39 = (σ164 86 39) := rfl; have hw1 : σ164 86 36 = (σ164 86 36) := rfl; have hw2 : σ164 86 37 = (σ128 86 37) := (hG166.1 86 37 (by decide)).trans ((hG150.1 86 37 (by decide)).trans rfl); omega)
          · skip
            refine qr_iconst 28 rfl rfl ?_
            refine qr_goto 32 rfl rfl ?_
            refine qr_istore_n _ 33 rfl (by decide) rfl rfl ?_
            refine qr_goto 5 rfl rfl ?_
            exact ih140 _ 1 σ164 (by omega) (qm_gk (qm_gk g125 (by decide) (Or.inl (by decide))) (by decide) (Or.inr rfl)) (qm_ge _ _ _) (by omega) hI165 hF167 ((hG166.1 86 37 (by decide)).trans ((hG150.1 86 37 (by decide)).trans rfl)) (by have hw0 : σ164 86 39 = (σ164 86 39) := rfl; have hw1 : σ164 86 36 = (σ164 86 36) := rfl; have hw2 : σ164 86 37 = (σ128 86 37) := (hG166.1 86 37 (by decide)).trans ((hG150.1 86 37 (by decide)).trans rfl); omega) (by have hw0 : σ164 86 39 = (σ164 86 39) := rfl; have hw1 : σ164 86 36 = (σ164 86 36) := rfl; have hw2 : σ164 86 37 = (σ128 86 37) := (hG166.1 86 37 (by decide)).trans ((hG150.1 86 37 (by decide)).trans rfl); omega) (by have hw0 : σ164 86 39 = (σ164 86 39) := rfl; have hw1 : σ164 86 36 = (σ164 86 36) := rfl; have hw2 : σ164 86 37 = (σ128 86 37) := (hG166.1 86 37 (by decide)).trans ((hG150.1 86 37 (by decide)).trans rfl); omega) (by have hw0 : σ164 86 39 = (σ164 86 39) := rfl; have hw1 : σ164 86 36 = (σ164 86 36) := rfl; have hw2 : σ164 86 37 = (σ128 86 37) := (hG166.1 86 37 (by decide)).trans ((hG150.1 86 37 (by decide)).trans rfl); omega) (by have hw0 : σ164 86 39 = (σ164 86 39) := rfl; have hw1 : σ164 86 36 = (σ164 86 36) := rfl; have hw2 : σ164 86 37 = (σ128 86 37) := (hG166.1 86 37 (by decide)).trans ((hG150.1 86 37 (by decide)).trans rfl); omega)
  exact hL139 ((((120 - σ6 86 36).toNat : Int) + 1 : Int)).toNat _ v1 σ6 (by omega) rfl rfl (by omega) hI7 hF9 ((hG8.1 86 37 (by decide)).trans rfl) (by have hw0 : σ6 86 39 = (σ6 86 39) := rfl; have hw1 : σ6 86 36 = (σ6 86 36) := rfl; have hw2 : σ6 86 37 = (σ 86 37) := (hG8.1 86 37 (by decide)).trans rfl; omega) (by have hw0 : σ6 86 39 = (σ6 86 39) := rfl; have hw1 : σ6 86 36 = (σ6 86 36) := rfl; have hw2 : σ6 86 37 = (σ 86 37) := (hG8.1 86 37 (by decide)).trans rfl; omega) (by have hw0 : σ6 86 39 = (σ6 86 39) := rfl; have hw1 : σ6 86 36 = (σ6 86 36) := rfl; have hw2 : σ6 86 37 = (σ 86 37) := (hG8.1 86 37 (by decide)).trans rfl; omega) (by have hw0 : σ6 86 39 = (σ6 86 39) := rfl; have hw1 : σ6 86 36 = (σ6 86 36) := rfl; have hw2 : σ6 86 37 = (σ 86 37) := (hG8.1 86 37 (by decide)).trans rfl; omega) (by have hw0 : σ6 86 39 = (σ6 86 39) := rfl; have hw1 : σ6 86 36 = (σ6 86 36) := rfl; have hw2 : σ6 86 37 = (σ 86 37) := (hG8.1 86 37 (by decide)).trans rfl; omega)

