set_option maxHeartbeats 4000000 in
set_option maxRecDepth 20000 in
/-- OneRoofModel.either -/
theorem sf_214_86o1 {L : Nat} {xs : Nat → Int} {vb : Bool} {d : Nat} {σ α : Nat → Nat → Int} {κ : Nat → Option Nat} {ρ : Nat}  (hI : qI σ α κ ρ) (p0 : 1 ≤ σ 86 39) (p1 : σ 86 36 ≤ σ 86 37) : qm_T (qe L xs vb) (d + 37) 214 [.ref 86] (qw σ α κ ρ) (fun r w' => ∃ σ', w' = qw σ' α κ ρ ∧ qI σ' α κ ρ ∧ qFr [(86, 36), (86, 38), (86, 39)] [] σ α σ' α ∧ ∃ v : Int, r = some (.int (qz v)) ∧ ((-2147483648) ≤ v ∧ v ≤ 2147483647) ∧ σ 86 39 ≤ σ' 86 39 ∧ σ 86 36 ≤ σ' 86 36 ∧ σ' 86 36 ≤ σ' 86 37 ∧ σ' 86 37 = σ 86 37) := by
  refine qr_start (d := d + 36) qv_e214 (Nat.le_of_ble_eq_true rfl) ?_
  show qr_W (qe L xs vb) (d + 36) qx_e214 _ (0, [(0, .ref 86)], [], _, 0, 0)
  have hF0 := qFr_rf [(86, 36), (86, 38), (86, 39)] [] σ α
  have hz86_39 : 0 ≤ σ 86 39 ∧ σ 86 39 ≤ 6 := hI.1 86 39
  have hz86_36 : 0 ≤ σ 86 36 ∧ σ 86 36 ≤ 120 := hI.1 86 36
  have hz86_37 : 0 ≤ σ 86 37 ∧ σ 86 37 ≤ 120 := hI.1 86 37
  refine qr_aload_n 1 rfl rfl rfl ?_
  have hs1 : 0 ≤ σ 86 36 ∧ σ 86 36 ≤ 120 := hI.1 86 36
  have hs2 : 0 ≤ σ 86 37 ∧ σ 86 37 ≤ 120 := hI.1 86 37
  have hs3 : 0 ≤ σ 86 39 ∧ σ 86 39 ≤ 6 := hI.1 86 39
  refine qr_callN 4 rfl rfl rfl (sf_215_86o1 (d := d + 0) hI (by omega) (by omega)) ?_
  have hs6 : 0 ≤ σ 86 36 ∧ σ 86 36 ≤ 120 := hI.1 86 36
  have hs7 : 0 ≤ σ 86 37 ∧ σ 86 37 ≤ 120 := hI.1 86 37
  have hs8 : 0 ≤ σ 86 39 ∧ σ 86 39 ≤ 6 := hI.1 86 39
  rintro _ _ ⟨σ9, rfl, hI10, hG11, v4, rfl, hv4, hp5⟩
  have hF12 : qFr [(86, 36), (86, 38), (86, 39)] [] σ α σ9 α := qFr_t hF0 hG11 (by decide) (by decide)
  have hs13 : 0 ≤ σ9 86 36 ∧ σ9 86 36 ≤ 120 := hI10.1 86 36
  have hs14 : 0 ≤ σ9 86 37 ∧ σ9 86 37 ≤ 120 := hI10.1 86 37
  have hs15 : 0 ≤ σ9 86 39 ∧ σ9 86 39 ≤ 6 := hI10.1 86 39
  show qr_W (qe L xs vb) (d + 36) qx_e214 _ (4, _, [.int (qz v4)], qw σ9 α κ ρ, 0, 0)
  refine qr_istore_n _ 5 rfl (by decide) rfl rfl ?_
  have hL166 : ∀ (n : Nat) (ls : qm_L) (u154 : Int) (σ155 : Nat → Nat → Int), ((120 - σ155 86 36).toNat : Int) < (n : Int) → qm_get ls 0 = some (.ref 86) → qm_get ls 1 = some (.int (qz u154)) → ((-2147483648) ≤ u154 ∧ u154 ≤ 2147483647) → qI σ155 α κ ρ → qFr [(86, 36), (86, 38), (86, 39)] [] σ α σ155 α → σ155 86 37 = (σ 86 37) → 1 ≤ σ155 86 39 → σ 86 39 ≤ σ155 86 39 → σ 86 36 ≤ σ155 86 36 → σ155 86 36 ≤ σ155 86 37 → σ155 86 37 = σ 86 37 → qr_W (qe L xs vb) (d + 36) qx_e214 (fun r w' => ∃ σ', w' = qw σ' α κ ρ ∧ qI σ' α κ ρ ∧ qFr [(86, 36), (86, 38), (86, 39)] [] σ α σ' α ∧ ∃ v : Int, r = some (.int (qz v)) ∧ ((-2147483648) ≤ v ∧ v ≤ 2147483647) ∧ σ 86 39 ≤ σ' 86 39 ∧ σ 86 36 ≤ σ' 86 36 ∧ σ' 86 36 ≤ σ' 86 37 ∧ σ' 86 37 = σ 86 37) (5, ls, [], qw σ155 α κ ρ, 0, 0) := by
    intro n
    induction n with
    | zero => intro ls u154 σ155 hm g152 g153 hf160 hI157 hF158 hk159 hx161 hx162 hx163 hx164 hx165; exact False.elim (by omega)
    | succ n ih167 =>
      intro ls u154 σ155 hm g152 g153 hf160 hI157 hF158 hk159 hx161 hx162 hx163 hx164 hx165
      have hs168 : 0 ≤ σ155 86 39 ∧ σ155 86 39 ≤ 6 := hI157.1 86 39
      have hs169 : 0 ≤ σ155 86 36 ∧ σ155 86 36 ≤ 120 := hI157.1 86 36
      have hs170 : 0 ≤ σ155 86 37 ∧ σ155 86 37 ≤ 120 := hI157.1 86 37
      refine qr_aload_n 6 rfl g152 rfl ?_
      refine qr_bipush 8 rfl (by decide) rfl ?_
      refine qr_callN 11 rfl rfl rfl (sf_222_86t (d := d + 34) hI157 (by decide) (by omega)) ?_
      have hs173 : 0 ≤ σ155 86 36 ∧ σ155 86 36 ≤ 120 := hI157.1 86 36
      have hs174 : 0 ≤ σ155 86 37 ∧ σ155 86 37 ≤ 120 := hI157.1 86 37
      have hs175 : σ155 86 37 = (σ 86 37) := (hk159).trans rfl
      rintro _ _ ⟨σ176, rfl, hI177, hG178, v171, rfl, hv171, hp172⟩
      have hF179 : qFr [(86, 36), (86, 38), (86, 39)] [] σ α σ176 α := qFr_t hF158 hG178 (by decide) (by decide)
      have hs180 : 0 ≤ σ176 86 36 ∧ σ176 86 36 ≤ 120 := hI177.1 86 36
      show qr_W (qe L xs vb) (d + 36) qx_e214 _ (11, _, [.int (qz v171)], qw σ176 α κ ρ, 0, 0)
      refine qr_if_eq 36 14 rfl rfl rfl (qrg hv171 (by decide) (by decide)) (fun h181 => ?_) (fun h181 => ?_)
      · skip
        refine qr_iload_n 37 rfl g153 rfl ?_
        refine qr_retI rfl rfl (by decide) (by decide) ?_
        have hw182 : σ176 86 36 = (σ176 86 36) := rfl
        have hw183 : σ176 86 37 = (σ 86 37) := (hG178.1 86 37 (by decide)).trans ((hk159).trans rfl)
        have hw184 : σ176 86 39 = (σ155 86 39) := (hG178.1 86 39 (by decide)).trans rfl
        exact ⟨_, rfl, hI177, hF179, u154, rfl, hf160, by omega⟩
      · skip
        refine qr_aload_n 15 rfl g152 rfl ?_
        have hs185 : 0 ≤ σ176 86 36 ∧ σ176 86 36 ≤ 120 := hI177.1 86 36
        have hs186 : 0 ≤ σ176 86 37 ∧ σ176 86 37 ≤ 120 := hI177.1 86 37
        have hs187 : σ176 86 37 = (σ 86 37) := (hG178.1 86 37 (by decide)).trans ((hk159).trans rfl)
        have hs188 : 0 ≤ σ176 86 39 ∧ σ176 86 39 ≤ 6 := hI177.1 86 39
        have hs189 : σ176 86 39 = (σ155 86 39) := (hG178.1 86 39 (by decide)).trans rfl
        refine qr_callN 18 rfl rfl rfl (sf_215_86o1 (d := d + 0) hI177 (by omega) (by omega)) ?_
        have hs192 : 0 ≤ σ176 86 36 ∧ σ176 86 36 ≤ 120 := hI177.1 86 36
        have hs193 : 0 ≤ σ176 86 37 ∧ σ176 86 37 ≤ 120 := hI177.1 86 37
        have hs194 : σ176 86 37 = (σ 86 37) := (hG178.1 86 37 (by decide)).trans ((hk159).trans rfl)
        have hs195 : 0 ≤ σ176 86 39 ∧ σ176 86 39 ≤ 6 := hI177.1 86 39
        have hs196 : σ176 86 39 = (σ155 86 39) := (hG178.1 86 39 (by decide)).trans rfl
        rintro _ _ ⟨σ197, rfl, hI198, hG199, v190, rfl, hv190, hp191⟩
        have hF200 : qFr [(86, 36), (86, 38), (86, 39)] [] σ α σ197 α := qFr_t hF179 hG199 (by decide) (by decide)
        have hs201 : 0 ≤ σ197 86 36 ∧ σ197 86 36 ≤ 120 := hI198.1 86 36
        have hs202 : 0 ≤ σ197 86 37 ∧ σ197 86 37 ≤ 120 := hI198.1 86 37
        have hs203 : 0 ≤ σ197 86 39 ∧ σ197 86 39 ≤ 6 := hI198.1 86 39
        show qr_W (qe L xs vb) (d + 36) qx_e214 _ (18, _, [.int (qz v190)], qw σ197 α κ ρ, 0, 0)
        refine qr_istore_n _ 19 rfl (by decide) rfl rfl ?_
        refine qr_iload_n 20 rfl (qm_gk g153 (by decide) (Or.inr rfl)) rfl ?_
        refine qr_if_ne 27 23 rfl rfl rfl hf160 (fun h204 => ?_) (fun h204 => ?_)
        · skip
          refine qr_iconst 28 rfl rfl ?_
          refine qr_goto 32 rfl rfl ?_
          refine qr_istore_n _ 33 rfl (by decide) rfl rfl ?_
          refine qr_goto 5 rfl rfl ?_
          exact ih167 _ 1 σ197 (by omega) (qm_gk (qm_gk g152 (by decide) (Or.inl (by decide))) (by decide) (Or.inr rfl)) (qm_ge _ _ _) (by decide) hI198 hF200 ((hG199.1 86 37 (by decide)).trans ((hG178.1 86 37 (by decide)).trans ((hk159).trans rfl))) (by have hw0 : σ197 86 39 = (σ197 86 39) := rfl; have hw1 : σ197 86 36 = (σ197 86 36) := rfl; have hw2 : σ197 86 37 = (σ 86 37) := (hG199.1 86 37 (by decide)).trans ((hG178.1 86 37 (by decide)).trans ((hk159).trans rfl)); omega) (by have hw0 : σ197 86 39 = (σ197 86 39) := rfl; have hw1 : σ197 86 36 = (σ197 86 36) := rfl; have hw2 : σ197 86 37 = (σ 86 37) := (hG199.1 86 37 (by decide)).trans ((hG178.1 86 37 (by decide)).trans ((hk159).trans rfl)); omega) (by have hw0 : σ197 86 39 = (σ197 86 39) := rfl; have hw1 : σ197 86 36 = (σ197 86 36) := rfl; have hw2 : σ197 86 37 = (σ 86 37) := (hG199.1 86 37 (by decide)).trans ((hG178.1 86 37 (by decide)).trans ((hk159).trans rfl)); omega) (by have hw0 : σ197 86 39 = (σ197 86 39) := rfl; have hw1 : σ197 86 36 = (σ197 86 36) := rfl; have hw2 : σ197 86 37 = (σ 86 37) := (hG199.1 86 37 (by decide)).trans ((hG178.1 86 37 (by decide)).trans ((hk159).trans rfl)); omega) (by have hw0 : σ197 86 39 = (σ197 86 39) := rfl; have hw1 : σ197 86 36 = (σ197 86 36) := rfl; have hw2 : σ197 86 37 = (σ 86 37) := (hG199.1 86 37 (by decide)).trans ((hG178.1 86 37 (by decide)).trans ((hk159).trans rfl)); omega)
        · skip
          refine qr_iload_n 24 rfl (qm_ge _ _ _) rfl ?_
          refine qr_if_eq 31 27 rfl rfl rfl hv190 (fun h205 => ?_) (fun h205 => ?_)
          · skip
            refine qr_iconst 32 rfl rfl ?_
            refine qr_istore_n _ 33 rfl (by decide) rfl rfl ?_
            refine qr_goto 5 rfl rfl ?_
            exact ih167 _ 0 σ197 (by omega) (qm_gk (qm_gk g152 (by decide) (Or.inl (by decide))) (by decide) (Or.inr rfl)) (qm_ge _ _ _) (by decide) hI198 hF200 ((hG199.1 86 37 (by decide)).trans ((hG178.1 86 37 (by decide)).trans ((hk159).trans rfl))) (by have hw0 : σ197 86 39 = (σ197 86 39) := rfl; have hw1 : σ197 86 36 = (σ197 86 36) := rfl; have hw2 : σ197 86 37 = (σ 86 37) := (hG199.1 86 37 (by decide)).trans ((hG178.1 86 37 (by decide)).trans ((hk159).trans rfl)); omega) (by have hw0 : σ197 86 39 = (σ197 86 39) := rfl; have hw1 : σ197 86 36 = (σ197 86 36) := rfl; have hw2 : σ197 86 37 = (σ 86 37) := (hG199.1 86 37 (by decide)).trans ((hG178.1 86 37 (by decide)).trans ((hk159).trans rfl)); omega) (by have hw0 : σ197 86 39 = (σ197 86 39) := rfl; have hw1 : σ197 86 36 = (σ197 86 36) := rfl; have hw2 : σ197 86 37 = (σ 86 37) := (hG199.1 86 37 (by decide)).trans ((hG178.1 86 37 (by decide)).trans ((hk159).trans rfl)); omega) (by have hw0 : σ197 86 39 = (σ197 86 39) := rfl; have hw1 : σ197 86 36 = (σ197 86 36) := rfl; have hw2 : σ197 86 37 = (σ 86 37) := (hG199.1 86 37 (by decide)).trans ((hG178.1 86 37 (by decide)).trans ((hk159).trans rfl)); omega) (by have hw0 : σ197 86 39 = (σ197 86 39) := rfl; have hw1 : σ197 86 36 = (σ197 86 36) := rfl; have hw2 : σ197 86 37 = (σ 86 37) := (hG199.1 86 37 (by decide)).trans ((hG178.1 86 37 (by decide)).trans ((hk159).trans rfl)); omega)
          · skip
            refine qr_iconst 28 rfl rfl ?_
            refine qr_goto 32 rfl rfl ?_
            refine qr_istore_n _ 33 rfl (by decide) rfl rfl ?_
            refine qr_goto 5 rfl rfl ?_
            exact ih167 _ 1 σ197 (by omega) (qm_gk (qm_gk g152 (by decide) (Or.inl (by decide))) (by decide) (Or.inr rfl)) (qm_ge _ _ _) (by decide) hI198 hF200 ((hG199.1 86 37 (by decide)).trans ((hG178.1 86 37 (by decide)).trans ((hk159).trans rfl))) (by have hw0 : σ197 86 39 = (σ197 86 39) := rfl; have hw1 : σ197 86 36 = (σ197 86 36) := rfl; have hw2 : σ197 86 37 = (σ 86 37) := (hG199.1 86 37 (by decide)).trans ((hG178.1 86 37 (by decide)).trans ((hk159).trans rfl)); omega) (by have hw0 : σ197 86 39 = (σ197 86 39) := rfl; have hw1 : σ197 86 36 = (σ197 86 36) := rfl; have hw2 : σ197 86 37 = (σ 86 37) := (hG199.1 86 37 (by decide)).trans ((hG178.1 86 37 (by decide)).trans ((hk159).trans rfl)); omega) (by have hw0 : σ197 86 39 = (σ197 86 39) := rfl; have hw1 : σ197 86 36 = (σ197 86 36) := rfl; have hw2 : σ197 86 37 = (σ 86 37) := (hG199.1 86 37 (by decide)).trans ((hG178.1 86 37 (by decide)).trans ((hk159).trans rfl)); omega) (by have hw0 : σ197 86 39 = (σ197 86 39) := rfl; have hw1 : σ197 86 36 = (σ197 86 36) := rfl; have hw2 : σ197 86 37 = (σ 86 37) := (hG199.1 86 37 (by decide)).trans ((hG178.1 86 37 (by decide)).trans ((hk159).trans rfl)); omega) (by have hw0 : σ197 86 39 = (σ197 86 39) := rfl; have hw1 : σ197 86 36 = (σ197 86 36) := rfl; have hw2 : σ197 86 37 = (σ 86 37) := (hG199.1 86 37 (by decide)).trans ((hG178.1 86 37 (by decide)).trans ((hk159).trans rfl)); omega)
  exact hL166 ((((120 - σ9 86 36).toNat : Int) + 1 : Int)).toNat _ v4 σ9 (by omega) rfl rfl hv4 hI10 hF12 ((hG11.1 86 37 (by decide)).trans rfl) (by have hw0 : σ9 86 39 = (σ9 86 39) := rfl; have hw1 : σ9 86 36 = (σ9 86 36) := rfl; have hw2 : σ9 86 37 = (σ 86 37) := (hG11.1 86 37 (by decide)).trans rfl; omega) (by have hw0 : σ9 86 39 = (σ9 86 39) := rfl; have hw1 : σ9 86 36 = (σ9 86 36) := rfl; have hw2 : σ9 86 37 = (σ 86 37) := (hG11.1 86 37 (by decide)).trans rfl; omega) (by have hw0 : σ9 86 39 = (σ9 86 39) := rfl; have hw1 : σ9 86 36 = (σ9 86 36) := rfl; have hw2 : σ9 86 37 = (σ 86 37) := (hG11.1 86 37 (by decide)).trans rfl; omega) (by have hw0 : σ9 86 39 = (σ9 86 39) := rfl; have hw1 : σ9 86 36 = (σ9 86 36) := rfl; have hw2 : σ9 86 37 = (σ 86 37) := (hG11.1 86 37 (by decide)).trans rfl; omega) (by have hw0 : σ9 86 39 = (σ9 86 39) := rfl; have hw1 : σ9 86 36 = (σ9 86 36) := rfl; have hw2 : σ9 86 37 = (σ 86 37) := (hG11.1 86 37 (by decide)).trans rfl; omega)

set_option maxHeartbeats 4000000 in
set_option maxRecDepth 20000 in
/-- OneRoofModel.one -/
theorem sf_219_86o0 {L : Nat} {xs : Nat → Int} {vb : Bool} {d : Nat} {σ α : Nat → Nat → Int} {κ : Nat → Option Nat} {ρ : Nat}  (hI : qI σ α κ ρ) (p0 : 0 ≤ σ 86 39) (p1 : σ 86 36 ≤ σ 86 37) : qm_T (qe L xs vb) (d + 38) 219 [.ref 86] (qw σ α κ ρ) (fun r w' => ∃ σ', w' = qw σ' α κ ρ ∧ qI σ' α κ ρ ∧ qFr [(86, 36), (86, 38), (86, 39)] [] σ α σ' α ∧ ∃ v : Int, r = some (.int (qz v)) ∧ ((-2147483648) ≤ v ∧ v ≤ 2147483647) ∧ σ 86 39 ≤ σ' 86 39 ∧ σ 86 36 ≤ σ' 86 36 ∧ σ' 86 36 ≤ σ' 86 37 ∧ σ' 86 37 = σ 86 37) := by
  refine qr_start (d := d + 37) qv_e219 (Nat.le_of_ble_eq_true rfl) ?_
  show qr_W (qe L xs vb) (d + 37) qx_e219 _ (0, [(0, .ref 86)], [], _, 0, 0)
  have hF0 := qFr_rf [(86, 36), (86, 38), (86, 39)] [] σ α
  have hz86_39 : 0 ≤ σ 86 39 ∧ σ 86 39 ≤ 6 := hI.1 86 39
  have hz86_36 : 0 ≤ σ 86 36 ∧ σ 86 36 ≤ 120 := hI.1 86 36
  have hz86_37 : 0 ≤ σ 86 37 ∧ σ 86 37 ≤ 120 := hI.1 86 37
  refine qr_aload_n 1 rfl rfl rfl ?_
  refine qr_get 4 rfl rfl rfl (by decide) rfl ?_
  have hs1 : (-1) ≤ σ 86 38 ∧ σ 86 38 ≤ 120 := hI.1 86 38
  refine qr_if_lt 9 7 rfl rfl rfl (qrg hs1 (by decide) (by decide)) (fun h2 => ?_) (fun h2 => ?_)
  · skip
    refine qr_aload_n 10 rfl rfl rfl ?_
    refine qr_callN 13 rfl rfl rfl (sf_220_86t (d := d + 36) hI ) ?_
    have hs5 : 0 ≤ σ 86 36 ∧ σ 86 36 ≤ 120 := hI.1 86 36
    have hs6 : 0 ≤ σ 86 37 ∧ σ 86 37 ≤ 120 := hI.1 86 37
    rintro _ _ ⟨rfl, v3, rfl, hv3, hp4⟩
    show qr_W (qe L xs vb) (d + 37) qx_e219 _ (13, _, [.int (qz v3)], qw σ α κ ρ, 0, 0)
    refine qr_istore_n _ 14 rfl (by decide) rfl rfl ?_
    refine qr_iload_n 15 rfl rfl rfl ?_
    refine qr_bipush 17 rfl (by decide) rfl ?_
    refine qr_icmp_eq 32 20 rfl rfl rfl hv3 (by decide) (fun h7 => ?_) (fun h7 => ?_)
    · skip
      refine qr_aload_n 33 rfl rfl rfl ?_
      refine qr_get 36 rfl rfl rfl (by decide) rfl ?_
      refine qr_bipush 38 rfl (by decide) rfl ?_
      refine qr_icmp_ne 46 41 rfl rfl rfl (qrg hz86_39 (by decide) (by decide)) (by decide) (fun h8 => ?_) (fun h8 => ?_)
      · skip
        refine qr_aload_n 47 rfl rfl rfl ?_
        refine qr_dup 48 rfl rfl rfl ?_
        refine qr_get 51 rfl rfl rfl (by decide) rfl ?_
        refine qr_iconst 52 rfl rfl ?_
        refine qr_iadd 53 rfl rfl ?_
        refine qr_put 56 rfl (by decide) rfl (Nat.le_of_ble_eq_true rfl) (Nat.le_of_ble_eq_true rfl) (Or.inl rfl) (qr_fitI rfl _) rfl ?_
        refine qy_wS (qw_s σ 86 39 ((σ 86 39) + 1)) rfl (fun σ9 e10 => ?_)
        have hI11 : qI σ9 α κ ρ := by rw [e10]; exact qI_s hI 86 39 rfl (show 0 ≤ ((σ 86 39) + 1) ∧ ((σ 86 39) + 1) ≤ 6 by omega)
        have hF12 : qFr [(86, 36), (86, 38), (86, 39)] [] σ α σ9 α := by rw [e10]; exact qFr_s hF0 86 39 _ (by decide)
        refine qr_aload_n 57 rfl rfl rfl ?_
        refine qr_dup 58 rfl rfl rfl ?_
        refine qr_get 61 rfl rfl rfl (by decide) rfl ?_
        refine qy_v (σ 86 36) ((congrFun (congrFun e10 86) 36).trans rfl) ?_
        refine qr_iconst 62 rfl rfl ?_
        refine qr_iadd 63 rfl rfl ?_
        refine qr_put 66 rfl (by decide) rfl (Nat.le_of_ble_eq_true rfl) (Nat.le_of_ble_eq_true rfl) (Or.inl rfl) (qr_fitI rfl _) rfl ?_
        refine qy_wS (qw_s σ9 86 36 ((σ 86 36) + 1)) rfl (fun σ13 e14 => ?_)
        have hI15 : qI σ13 α κ ρ := by rw [e14]; exact qI_s hI11 86 36 rfl (show 0 ≤ ((σ 86 36) + 1) ∧ ((σ 86 36) + 1) ≤ 120 by omega)
        have hF16 : qFr [(86, 36), (86, 38), (86, 39)] [] σ α σ13 α := by rw [e14]; exact qFr_s hF12 86 36 _ (by decide)
        refine qr_iload_n 67 rfl rfl rfl ?_
        refine qr_bipush 69 rfl (by decide) rfl ?_
        refine qr_icmp_ne 79 72 rfl rfl rfl hv3 (by decide) (fun h17 => ?_) (fun h => False.elim (by omega))
        refine qr_aload_n 80 rfl rfl rfl ?_
        have hs18 : 0 ≤ σ13 86 36 ∧ σ13 86 36 ≤ 120 := hI15.1 86 36
        have hs19 : σ13 86 36 = ((σ 86 36) + 1) := (congrFun (congrFun e14 86) 36).trans rfl
        have hs20 : 0 ≤ σ13 86 37 ∧ σ13 86 37 ≤ 120 := hI15.1 86 37
        have hs21 : σ13 86 37 = (σ 86 37) := (congrFun (congrFun e14 86) 37).trans ((congrFun (congrFun e10 86) 37).trans rfl)
        have hs22 : 0 ≤ σ13 86 39 ∧ σ13 86 39 ≤ 6 := hI15.1 86 39
        have hs23 : σ13 86 39 = ((σ 86 39) + 1) := (congrFun (congrFun e14 86) 39).trans ((congrFun (congrFun e10 86) 39).trans rfl)
        refine qr_callN 83 rfl rfl rfl (sf_219_86o1 (d := d + 5) hI15 (by omega) (by omega)) ?_
        have hs26 : 0 ≤ σ13 86 36 ∧ σ13 86 36 ≤ 120 := hI15.1 86 36
        have hs27 : σ13 86 36 = ((σ 86 36) + 1) := (congrFun (congrFun e14 86) 36).trans rfl
        have hs28 : 0 ≤ σ13 86 37 ∧ σ13 86 37 ≤ 120 := hI15.1 86 37
        have hs29 : σ13 86 37 = (σ 86 37) := (congrFun (congrFun e14 86) 37).trans ((congrFun (congrFun e10 86) 37).trans rfl)
        have hs30 : 0 ≤ σ13 86 39 ∧ σ13 86 39 ≤ 6 := hI15.1 86 39
        have hs31 : σ13 86 39 = ((σ 86 39) + 1) := (congrFun (congrFun e14 86) 39).trans ((congrFun (congrFun e10 86) 39).trans rfl)
        rintro _ _ ⟨σ32, rfl, hI33, hG34, v24, rfl, hv24, hp25⟩
        have hF35 : qFr [(86, 36), (86, 38), (86, 39)] [] σ α σ32 α := qFr_t hF16 hG34 (by decide) (by decide)
        have hs36 : 0 ≤ σ32 86 36 ∧ σ32 86 36 ≤ 120 := hI33.1 86 36
        have hs37 : 0 ≤ σ32 86 37 ∧ σ32 86 37 ≤ 120 := hI33.1 86 37
        have hs38 : 0 ≤ σ32 86 39 ∧ σ32 86 39 ≤ 6 := hI33.1 86 39
        show qr_W (qe L xs vb) (d + 37) qx_e219 _ (83, _, [.int (qz v24)], qw σ32 α κ ρ, 0, 0)
        refine qr_istore_n _ 84 rfl (by decide) rfl rfl ?_
        refine qr_iload_n 85 rfl rfl rfl ?_
        refine qr_bipush 87 rfl (by decide) rfl ?_
        refine qr_icmp_ne 104 90 rfl rfl rfl hv3 (by decide) (fun h39 => ?_) (fun h => False.elim (by omega))
        refine qr_aload_n 105 rfl rfl rfl ?_
        refine qr_dup 106 rfl rfl rfl ?_
        refine qr_get 109 rfl rfl rfl (by decide) rfl ?_
        refine qr_iconst 110 rfl rfl ?_
        refine qr_isub 111 rfl rfl ?_
        refine qr_put 114 rfl (by decide) rfl (Nat.le_of_ble_eq_true rfl) (Nat.le_of_ble_eq_true rfl) (Or.inl rfl) (qr_fitI rfl _) rfl ?_
        refine qy_wS (qw_s σ32 86 39 ((σ32 86 39) - 1)) rfl (fun σ40 e41 => ?_)
        have hI42 : qI σ40 α κ ρ := by rw [e41]; exact qI_s hI33 86 39 rfl (show 0 ≤ ((σ32 86 39) - 1) ∧ ((σ32 86 39) - 1) ≤ 6 by omega)
        have hF43 : qFr [(86, 36), (86, 38), (86, 39)] [] σ α σ40 α := by rw [e41]; exact qFr_s hF35 86 39 _ (by decide)
        refine qr_iload_n 115 rfl rfl rfl ?_
        refine qr_bipush 117 rfl (by decide) rfl ?_
        refine qr_icmp_ne 124 120 rfl rfl rfl hv3 (by decide) (fun h44 => ?_) (fun h => False.elim (by omega))
        refine qr_iload_n 125 rfl rfl rfl ?_
        refine qr_bipush 127 rfl (by decide) rfl ?_
        refine qr_icmp_ne 135 130 rfl rfl rfl hv3 (by decide) (fun h45 => ?_) (fun h => False.elim (by omega))
        refine qr_iload_n 136 rfl rfl rfl ?_
        refine qr_if_ne 143 139 rfl rfl rfl hv24 (fun h46 => ?_) (fun h46 => ?_)
        · skip
          refine qr_iconst 144 rfl rfl ?_
          refine qr_retI rfl rfl (by decide) (by decide) ?_
          have hw47 : σ40 86 36 = (σ32 86 36) := (congrFun (congrFun e41 86) 36).trans rfl
          have hw48 : σ40 86 37 = (σ 86 37) := (congrFun (congrFun e41 86) 37).trans ((hG34.1 86 37 (by decide)).trans ((congrFun (congrFun e14 86) 37).trans ((congrFun (congrFun e10 86) 37).trans rfl)))
          have hw49 : σ40 86 39 = ((σ32 86 39) - 1) := (congrFun (congrFun e41 86) 39).trans rfl
          exact ⟨_, rfl, hI42, hF43, 0, rfl, (by decide), by omega⟩
        · skip
          refine qr_iconst 140 rfl rfl ?_
          refine qr_goto 144 rfl rfl ?_
          as_aux_lemma =>
            refine qr_retI rfl rfl (by decide) (by decide) ?_
            have hw50 : σ40 86 36 = (σ32 86 36) := (congrFun (congrFun e41 86) 36).trans rfl
            have hw51 : σ40 86 37 = (σ 86 37) := (congrFun (congrFun e41 86) 37).trans ((hG34.1 86 37 (by decide)).trans ((congrFun (congrFun e14 86) 37).trans ((congrFun (congrFun e10 86) 37).trans rfl)))
            have hw52 : σ40 86 39 = ((σ32 86 39) - 1) := (congrFun (congrFun e41 86) 39).trans rfl
            exact ⟨_, rfl, hI42, hF43, 1, rfl, (by decide), by omega⟩
      · skip
        refine qr_aload_n 42 rfl rfl rfl ?_
        refine qr_callN 45 rfl rfl rfl (sf_221_86 (d := d + 36) hI ) ?_
        rintro _ _ ⟨σ54, rfl, hI55, hG56, v53, rfl, hv53⟩
        have hF57 : qFr [(86, 36), (86, 38), (86, 39)] [] σ α σ54 α := qFr_t hF0 hG56 (by decide) (by decide)
        show qr_W (qe L xs vb) (d + 37) qx_e219 _ (45, _, [.int (qz v53)], qw σ54 α κ ρ, 0, 0)
        refine qr_retI rfl rfl (by decide) (by decide) ?_
        have hw58 : σ54 86 36 = (σ 86 36) := (hG56.1 86 36 (by decide)).trans rfl
        have hw59 : σ54 86 37 = (σ 86 37) := (hG56.1 86 37 (by decide)).trans rfl
        have hw60 : σ54 86 39 = (σ 86 39) := (hG56.1 86 39 (by decide)).trans rfl
        exact ⟨_, rfl, hI55, hF57, v53, rfl, (qrg hv53 (by decide) (by decide)), by omega⟩
    · skip
      refine qr_iload_n 21 rfl rfl rfl ?_
      refine qr_bipush 23 rfl (by decide) rfl ?_
      refine qr_icmp_eq 32 26 rfl rfl rfl hv3 (by decide) (fun h61 => ?_) (fun h61 => ?_)
      · skip
        refine qr_aload_n 33 rfl rfl rfl ?_
        refine qr_get 36 rfl rfl rfl (by decide) rfl ?_
        refine qr_bipush 38 rfl (by decide) rfl ?_
        refine qr_icmp_ne 46 41 rfl rfl rfl (qrg hz86_39 (by decide) (by decide)) (by decide) (fun h62 => ?_) (fun h62 => ?_)
        · skip
          refine qr_aload_n 47 rfl rfl rfl ?_
          refine qr_dup 48 rfl rfl rfl ?_
          refine qr_get 51 rfl rfl rfl (by decide) rfl ?_
          refine qr_iconst 52 rfl rfl ?_
          refine qr_iadd 53 rfl rfl ?_
          refine qr_put 56 rfl (by decide) rfl (Nat.le_of_ble_eq_true rfl) (Nat.le_of_ble_eq_true rfl) (Or.inl rfl) (qr_fitI rfl _) rfl ?_
          refine qy_wS (qw_s σ 86 39 ((σ 86 39) + 1)) rfl (fun σ63 e64 => ?_)
          have hI65 : qI σ63 α κ ρ := by rw [e64]; exact qI_s hI 86 39 rfl (show 0 ≤ ((σ 86 39) + 1) ∧ ((σ 86 39) + 1) ≤ 6 by omega)
          have hF66 : qFr [(86, 36), (86, 38), (86, 39)] [] σ α σ63 α := by rw [e64]; exact qFr_s hF0 86 39 _ (by decide)
          refine qr_aload_n 57 rfl rfl rfl ?_
          refine qr_dup 58 rfl rfl rfl ?_
          refine qr_get 61 rfl rfl rfl (by decide) rfl ?_
          refine qy_v (σ 86 36) ((congrFun (congrFun e64 86) 36).trans rfl) ?_
          refine qr_iconst 62 rfl rfl ?_
          refine qr_iadd 63 rfl rfl ?_
          refine qr_put 66 rfl (by decide) rfl (Nat.le_of_ble_eq_true rfl) (Nat.le_of_ble_eq_true rfl) (Or.inl rfl) (qr_fitI rfl _) rfl ?_
          refine qy_wS (qw_s σ63 86 36 ((σ 86 36) + 1)) rfl (fun σ67 e68 => ?_)
          have hI69 : qI σ67 α κ ρ := by rw [e68]; exact qI_s hI65 86 36 rfl (show 0 ≤ ((σ 86 36) + 1) ∧ ((σ 86 36) + 1) ≤ 120 by omega)
          have hF70 : qFr [(86, 36), (86, 38), (86, 39)] [] σ α σ67 α := by rw [e68]; exact qFr_s hF66 86 36 _ (by decide)
          refine qr_iload_n 67 rfl rfl rfl ?_
          refine qr_bipush 69 rfl (by decide) rfl ?_
          refine qr_icmp_ne 79 72 rfl rfl rfl hv3 (by decide) (fun h71 => ?_) (fun h => False.elim (by omega))
          refine qr_aload_n 80 rfl rfl rfl ?_
          have hs72 : 0 ≤ σ67 86 36 ∧ σ67 86 36 ≤ 120 := hI69.1 86 36
          have hs73 : σ67 86 36 = ((σ 86 36) + 1) := (congrFun (congrFun e68 86) 36).trans rfl
          have hs74 : 0 ≤ σ67 86 37 ∧ σ67 86 37 ≤ 120 := hI69.1 86 37
          have hs75 : σ67 86 37 = (σ 86 37) := (congrFun (congrFun e68 86) 37).trans ((congrFun (congrFun e64 86) 37).trans rfl)
          have hs76 : 0 ≤ σ67 86 39 ∧ σ67 86 39 ≤ 6 := hI69.1 86 39
          have hs77 : σ67 86 39 = ((σ 86 39) + 1) := (congrFun (congrFun e68 86) 39).trans ((congrFun (congrFun e64 86) 39).trans rfl)
          refine qr_callN 83 rfl rfl rfl (sf_219_86o1 (d := d + 5) hI69 (by omega) (by omega)) ?_
          have hs80 : 0 ≤ σ67 86 36 ∧ σ67 86 36 ≤ 120 := hI69.1 86 36
          have hs81 : σ67 86 36 = ((σ 86 36) + 1) := (congrFun (congrFun e68 86) 36).trans rfl
          have hs82 : 0 ≤ σ67 86 37 ∧ σ67 86 37 ≤ 120 := hI69.1 86 37
          have hs83 : σ67 86 37 = (σ 86 37) := (congrFun (congrFun e68 86) 37).trans ((congrFun (congrFun e64 86) 37).trans rfl)
          have hs84 : 0 ≤ σ67 86 39 ∧ σ67 86 39 ≤ 6 := hI69.1 86 39
          have hs85 : σ67 86 39 = ((σ 86 39) + 1) := (congrFun (congrFun e68 86) 39).trans ((congrFun (congrFun e64 86) 39).trans rfl)
          rintro _ _ ⟨σ86, rfl, hI87, hG88, v78, rfl, hv78, hp79⟩
          have hF89 : qFr [(86, 36), (86, 38), (86, 39)] [] σ α σ86 α := qFr_t hF70 hG88 (by decide) (by decide)
          have hs90 : 0 ≤ σ86 86 36 ∧ σ86 86 36 ≤ 120 := hI87.1 86 36
          have hs91 : 0 ≤ σ86 86 37 ∧ σ86 86 37 ≤ 120 := hI87.1 86 37
          have hs92 : 0 ≤ σ86 86 39 ∧ σ86 86 39 ≤ 6 := hI87.1 86 39
          show qr_W (qe L xs vb) (d + 37) qx_e219 _ (83, _, [.int (qz v78)], qw σ86 α κ ρ, 0, 0)
          refine qr_istore_n _ 84 rfl (by decide) rfl rfl ?_
          refine qr_iload_n 85 rfl rfl rfl ?_
          refine qr_bipush 87 rfl (by decide) rfl ?_
          refine qr_icmp_ne 104 90 rfl rfl rfl hv3 (by decide) (fun h93 => ?_) (fun h => False.elim (by omega))
          refine qr_aload_n 105 rfl rfl rfl ?_
          refine qr_dup 106 rfl rfl rfl ?_
          refine qr_get 109 rfl rfl rfl (by decide) rfl ?_
          refine qr_iconst 110 rfl rfl ?_
          refine qr_isub 111 rfl rfl ?_
          refine qr_put 114 rfl (by decide) rfl (Nat.le_of_ble_eq_true rfl) (Nat.le_of_ble_eq_true rfl) (Or.inl rfl) (qr_fitI rfl _) rfl ?_
          refine qy_wS (qw_s σ86 86 39 ((σ86 86 39) - 1)) rfl (fun σ94 e95 => ?_)
          have hI96 : qI σ94 α κ ρ := by rw [e95]; exact qI_s hI87 86 39 rfl (show 0 ≤ ((σ86 86 39) - 1) ∧ ((σ86 86 39) - 1) ≤ 6 by omega)
          have hF97 : qFr [(86, 36), (86, 38), (86, 39)] [] σ α σ94 α := by rw [e95]; exact qFr_s hF89 86 39 _ (by decide)
          refine qr_iload_n 115 rfl rfl rfl ?_
          refine qr_bipush 117 rfl (by decide) rfl ?_
          refine qr_icmp_ne 124 120 rfl rfl rfl hv3 (by decide) (fun h98 => ?_) (fun h => False.elim (by omega))
          refine qr_iload_n 125 rfl rfl rfl ?_
          refine qr_bipush 127 rfl (by decide) rfl ?_
          refine qr_icmp_ne 135 130 rfl rfl rfl hv3 (by decide) (fun h => False.elim (by omega)) (fun h99 => ?_)
          refine qr_iload_n 131 rfl rfl rfl ?_
          as_aux_lemma =>
            refine qr_ineg 132 rfl rfl ?_
            refine qy_can (fun v100 hv100 => ?_)
            refine qr_goto 144 rfl rfl ?_
            refine qr_retI rfl rfl (by decide) (by decide) ?_
            have hw101 : σ94 86 36 = (σ86 86 36) := (congrFun (congrFun e95 86) 36).trans rfl
            have hw102 : σ94 86 37 = (σ 86 37) := (congrFun (congrFun e95 86) 37).trans ((hG88.1 86 37 (by decide)).trans ((congrFun (congrFun e68 86) 37).trans ((congrFun (congrFun e64 86) 37).trans rfl)))
            have hw103 : σ94 86 39 = ((σ86 86 39) - 1) := (congrFun (congrFun e95 86) 39).trans rfl
            exact ⟨_, rfl, hI96, hF97, v100, rfl, hv100, by omega⟩
        · skip
          refine qr_aload_n 42 rfl rfl rfl ?_
          refine qr_callN 45 rfl rfl rfl (sf_221_86 (d := d + 36) hI ) ?_
          rintro _ _ ⟨σ105, rfl, hI106, hG107, v104, rfl, hv104⟩
          have hF108 : qFr [(86, 36), (86, 38), (86, 39)] [] σ α σ105 α := qFr_t hF0 hG107 (by decide) (by decide)
          show qr_W (qe L xs vb) (d + 37) qx_e219 _ (45, _, [.int (qz v104)], qw σ105 α κ ρ, 0, 0)
          refine qr_retI rfl rfl (by decide) (by decide) ?_
          have hw109 : σ105 86 36 = (σ 86 36) := (hG107.1 86 36 (by decide)).trans rfl
          have hw110 : σ105 86 37 = (σ 86 37) := (hG107.1 86 37 (by decide)).trans rfl
          have hw111 : σ105 86 39 = (σ 86 39) := (hG107.1 86 39 (by decide)).trans rfl
          exact ⟨_, rfl, hI106, hF108, v104, rfl, (qrg hv104 (by decide) (by decide)), by omega⟩
      · skip
        refine qr_iload_n 27 rfl rfl rfl ?_
        refine qr_bipush 29 rfl (by decide) rfl ?_
        refine qr_icmp_ne 145 32 rfl rfl rfl hv3 (by decide) (fun h112 => ?_) (fun h112 => ?_)
        · skip
          refine qr_iload_n 146 rfl rfl rfl ?_
          refine qr_callN 149 rfl rfl rfl (sf_223t (d := d + 36) hI hv3) ?_
          rintro _ _ ⟨rfl, v113, rfl, hv113, hp114⟩
          show qr_W (qe L xs vb) (d + 37) qx_e219 _ (149, _, [.int (qz v113)], qw σ α κ ρ, 0, 0)
          refine qr_istore_n _ 150 rfl (by decide) rfl rfl ?_
          refine qr_iload_n 151 rfl rfl rfl ?_
          refine qr_if_lt 171 154 rfl rfl rfl (qrg hv113 (by decide) (by decide)) (fun h115 => ?_) (fun h115 => ?_)
          · skip
            refine qr_iconst 172 rfl rfl ?_
            refine qr_istore_n _ 173 rfl (by decide) rfl rfl ?_
            refine qr_iconst 174 rfl rfl ?_
            refine qr_istore _ 176 rfl (by decide) rfl rfl ?_
            have hL406 : ∀ (n : Nat) (ls : qm_L) (u389 u391 : Int) (σ392 : Nat → Nat → Int), 4 - u391 < (n : Int) → qm_get ls 0 = some (.ref 86) → qm_get ls 3 = some (.int (qz u389)) → qm_get ls 4 = some (.int (qz u391)) → ((-2147483648) ≤ u389 ∧ u389 ≤ 2147483647) → (0 ≤ u391 ∧ u391 ≤ 4) → qI σ392 α κ ρ → qFr [(86, 36), (86, 38), (86, 39)] [] σ α σ392 α → σ392 86 37 = (σ 86 37) → σ392 86 38 = (σ 86 38) → σ392 86 39 = (σ 86 39) → 0 ≤ σ392 86 39 → σ 86 39 ≤ σ392 86 39 → σ 86 36 ≤ σ392 86 36 → σ392 86 36 ≤ σ392 86 37 → σ392 86 37 = σ 86 37 → qr_W (qe L xs vb) (d + 37) qx_e219 (fun r w' => ∃ σ', w' = qw σ' α κ ρ ∧ qI σ' α κ ρ ∧ qFr [(86, 36), (86, 38), (86, 39)] [] σ α σ' α ∧ ∃ v : Int, r = some (.int (qz v)) ∧ ((-2147483648) ≤ v ∧ v ≤ 2147483647) ∧ σ 86 39 ≤ σ' 86 39 ∧ σ 86 36 ≤ σ' 86 36 ∧ σ' 86 36 ≤ σ' 86 37 ∧ σ' 86 37 = σ 86 37) (176, ls, [], qw σ392 α κ ρ, 0, 0) := by
              intro n
              induction n with
              | zero => intro ls u389 u391 σ392 hm g387 g388 g390 hf399 hf400 hI394 hF395 hk396 hk397 hk398 hx401 hx402 hx403 hx404 hx405; exact False.elim (by omega)
              | succ n ih407 =>
                intro ls u389 u391 σ392 hm g387 g388 g390 hf399 hf400 hI394 hF395 hk396 hk397 hk398 hx401 hx402 hx403 hx404 hx405
                have hs408 : 0 ≤ σ392 86 39 ∧ σ392 86 39 ≤ 6 := hI394.1 86 39
                have hs409 : 0 ≤ σ392 86 36 ∧ σ392 86 36 ≤ 120 := hI394.1 86 36
                have hs410 : 0 ≤ σ392 86 37 ∧ σ392 86 37 ≤ 120 := hI394.1 86 37
                refine qr_iload 178 rfl g390 rfl ?_
                refine qr_iconst 179 rfl rfl ?_
                refine qr_icmp_ge 229 182 rfl rfl rfl (qrg hf400 (by decide) (by decide)) (by decide) (fun h411 => ?_) (fun h411 => ?_)
                · skip
                  refine qr_iload 231 rfl g390 rfl ?_
                  refine qr_if_ne 241 234 rfl rfl rfl (qrg hf400 (by decide) (by decide)) (fun h412 => ?_) (fun h => False.elim (by omega))
                  refine qr_iload_n 242 rfl g388 rfl ?_
                  refine qr_retI rfl rfl (by decide) (by decide) ?_
                  have hw413 : σ392 86 36 = (σ392 86 36) := rfl
                  have hw414 : σ392 86 37 = (σ 86 37) := (hk396).trans rfl
                  have hw415 : σ392 86 39 = (σ 86 39) := (hk398).trans rfl
                  exact ⟨_, rfl, hI394, hF395, u389, rfl, hf399, by omega⟩
                · skip
                  refine qr_aload_n 183 rfl g387 rfl ?_
                  refine qr_callN 186 rfl rfl rfl (sf_220_86t (d := d + 36) hI394 ) ?_
                  have hs418 : 0 ≤ σ392 86 36 ∧ σ392 86 36 ≤ 120 := hI394.1 86 36
                  have hs419 : 0 ≤ σ392 86 37 ∧ σ392 86 37 ≤ 120 := hI394.1 86 37
                  have hs420 : σ392 86 37 = (σ 86 37) := (hk396).trans rfl
                  rintro _ _ ⟨rfl, v416, rfl, hv416, hp417⟩
                  show qr_W (qe L xs vb) (d + 37) qx_e219 _ (186, _, [.int (qz v416)], qw σ392 α κ ρ, 0, 0)
                  refine qr_bipush 188 rfl (by decide) rfl ?_
                  refine qr_icmp_lt 229 191 rfl rfl rfl hv416 (by decide) (fun h421 => ?_) (fun h421 => ?_)
                  · skip
                    refine qr_iload 231 rfl g390 rfl ?_
                    refine qr_if_ne 241 234 rfl rfl rfl (qrg hf400 (by decide) (by decide)) (fun h422 => ?_) (fun h422 => ?_)
                    · skip
                      refine qr_iload_n 242 rfl g388 rfl ?_
                      refine qr_retI rfl rfl (by decide) (by decide) ?_
                      have hw423 : σ392 86 36 = (σ392 86 36) := rfl
                      have hw424 : σ392 86 37 = (σ 86 37) := (hk396).trans rfl
                      have hw425 : σ392 86 39 = (σ 86 39) := (hk398).trans rfl
                      exact ⟨_, rfl, hI394, hF395, u389, rfl, hf399, by omega⟩
                    · skip
                      refine qr_aload_n 235 rfl g387 rfl ?_
                      refine qr_callN 238 rfl rfl rfl (sf_221_86 (d := d + 36) hI394 ) ?_
                      rintro _ _ ⟨σ427, rfl, hI428, hG429, v426, rfl, hv426⟩
                      have hF430 : qFr [(86, 36), (86, 38), (86, 39)] [] σ α σ427 α := qFr_t hF395 hG429 (by decide) (by decide)
                      show qr_W (qe L xs vb) (d + 37) qx_e219 _ (238, _, [.int (qz v426)], qw σ427 α κ ρ, 0, 0)
                      refine qr_goto 242 rfl rfl ?_
                      refine qr_retI rfl rfl (by decide) (by decide) ?_
                      have hw431 : σ427 86 36 = (σ392 86 36) := (hG429.1 86 36 (by decide)).trans rfl
                      have hw432 : σ427 86 37 = (σ 86 37) := (hG429.1 86 37 (by decide)).trans ((hk396).trans rfl)
                      have hw433 : σ427 86 39 = (σ 86 39) := (hG429.1 86 39 (by decide)).trans ((hk398).trans rfl)
                      exact ⟨_, rfl, hI428, hF430, v426, rfl, (qrg hv426 (by decide) (by decide)), by omega⟩
                  · skip
                    refine qr_aload_n 192 rfl g387 rfl ?_
                    refine qr_callN 195 rfl rfl rfl (sf_220_86t (d := d + 36) hI394 ) ?_
                    have hs436 : 0 ≤ σ392 86 36 ∧ σ392 86 36 ≤ 120 := hI394.1 86 36
                    have hs437 : 0 ≤ σ392 86 37 ∧ σ392 86 37 ≤ 120 := hI394.1 86 37
                    have hs438 : σ392 86 37 = (σ 86 37) := (hk396).trans rfl
                    rintro _ _ ⟨rfl, v434, rfl, hv434, hp435⟩
                    show qr_W (qe L xs vb) (d + 37) qx_e219 _ (195, _, [.int (qz v434)], qw σ392 α κ ρ, 0, 0)
                    refine qr_bipush 197 rfl (by decide) rfl ?_
                    refine qr_icmp_gt 229 200 rfl rfl rfl hv434 (by decide) (fun h439 => ?_) (fun h439 => ?_)
                    · skip
                      refine qr_iload 231 rfl g390 rfl ?_
                      refine qr_if_ne 241 234 rfl rfl rfl (qrg hf400 (by decide) (by decide)) (fun h440 => ?_) (fun h440 => ?_)
                      · skip
                        refine qr_iload_n 242 rfl g388 rfl ?_
                        refine qr_retI rfl rfl (by decide) (by decide) ?_
                        have hw441 : σ392 86 36 = (σ392 86 36) := rfl
                        have hw442 : σ392 86 37 = (σ 86 37) := (hk396).trans rfl
                        have hw443 : σ392 86 39 = (σ 86 39) := (hk398).trans rfl
                        exact ⟨_, rfl, hI394, hF395, u389, rfl, hf399, by omega⟩
                      · skip
                        refine qr_aload_n 235 rfl g387 rfl ?_
                        refine qr_callN 238 rfl rfl rfl (sf_221_86 (d := d + 36) hI394 ) ?_
                        rintro _ _ ⟨σ445, rfl, hI446, hG447, v444, rfl, hv444⟩
                        have hF448 : qFr [(86, 36), (86, 38), (86, 39)] [] σ α σ445 α := qFr_t hF395 hG447 (by decide) (by decide)
                        show qr_W (qe L xs vb) (d + 37) qx_e219 _ (238, _, [.int (qz v444)], qw σ445 α κ ρ, 0, 0)
                        refine qr_goto 242 rfl rfl ?_
                        refine qr_retI rfl rfl (by decide) (by decide) ?_
                        have hw449 : σ445 86 36 = (σ392 86 36) := (hG447.1 86 36 (by decide)).trans rfl
                        have hw450 : σ445 86 37 = (σ 86 37) := (hG447.1 86 37 (by decide)).trans ((hk396).trans rfl)
                        have hw451 : σ445 86 39 = (σ 86 39) := (hG447.1 86 39 (by decide)).trans ((hk398).trans rfl)
                        exact ⟨_, rfl, hI446, hF448, v444, rfl, (qrg hv444 (by decide) (by decide)), by omega⟩
                    · skip
                      refine qr_bipush 202 rfl (by decide) rfl ?_
                      refine qr_iload_n 203 rfl g388 rfl ?_
                      refine qr_imul 204 rfl rfl ?_
                      refine qy_can (fun v452 hv452 => ?_)
                      refine qr_aload_n 205 rfl g387 rfl ?_
                      refine qr_callN 208 rfl rfl rfl (sf_220_86t (d := d + 36) hI394 ) ?_
                      have hs455 : 0 ≤ σ392 86 36 ∧ σ392 86 36 ≤ 120 := hI394.1 86 36
                      have hs456 : 0 ≤ σ392 86 37 ∧ σ392 86 37 ≤ 120 := hI394.1 86 37
                      have hs457 : σ392 86 37 = (σ 86 37) := (hk396).trans rfl
                      rintro _ _ ⟨rfl, v453, rfl, hv453, hp454⟩
                      show qr_W (qe L xs vb) (d + 37) qx_e219 _ (208, _, [.int (qz v453), .int (qz v452)], qw σ392 α κ ρ, 0, 0)
                      refine qr_iadd 209 rfl rfl ?_
                      refine qy_can (fun v458 hv458 => ?_)
                      refine qr_bipush 211 rfl (by decide) rfl ?_
                      refine qr_isub 212 rfl rfl ?_
                      refine qy_can (fun v459 hv459 => ?_)
                      refine qr_istore_n _ 213 rfl (by decide) rfl rfl ?_
                      refine qr_iinc _ 216 rfl (qm_gk g390 (by decide) (Or.inl (by decide))) (by decide) rfl rfl ?_
                      refine qr_aload_n 217 rfl (qm_gk (qm_gk g387 (by decide) (Or.inl (by decide))) (by decide) (Or.inl (by decide))) rfl ?_
                      refine qr_dup 218 rfl rfl rfl ?_
                      refine qr_get 221 rfl rfl rfl (by decide) rfl ?_
                      refine qr_iconst 222 rfl rfl ?_
                      refine qr_iadd 223 rfl rfl ?_
                      refine qr_put 226 rfl (by decide) rfl (Nat.le_of_ble_eq_true rfl) (Nat.le_of_ble_eq_true rfl) (Or.inl rfl) (qr_fitI rfl _) rfl ?_
                      refine qy_wS (qw_s σ392 86 36 ((σ392 86 36) + 1)) rfl (fun σ460 e461 => ?_)
                      have hI462 : qI σ460 α κ ρ := by rw [e461]; exact qI_s hI394 86 36 rfl (show 0 ≤ ((σ392 86 36) + 1) ∧ ((σ392 86 36) + 1) ≤ 120 by omega)
                      have hF463 : qFr [(86, 36), (86, 38), (86, 39)] [] σ α σ460 α := by rw [e461]; exact qFr_s hF395 86 36 _ (by decide)
                      refine qr_goto 176 rfl rfl ?_
                      exact ih407 _ v459 (u391 + 1) σ460 (by omega) (qm_gk (qm_gk g387 (by decide) (Or.inl (by decide))) (by decide) (Or.inl (by decide))) (qm_gk (qm_ge _ _ _) (by decide) (Or.inr rfl)) (qm_ge _ _ _) hv459 (by omega) hI462 hF463 ((congrFun (congrFun e461 86) 37).trans ((hk396).trans rfl)) ((congrFun (congrFun e461 86) 38).trans ((hk397).trans rfl)) ((congrFun (congrFun e461 86) 39).trans ((hk398).trans rfl)) (by have hw0 : σ460 86 39 = (σ 86 39) := (congrFun (congrFun e461 86) 39).trans ((hk398).trans rfl); have hw1 : σ460 86 36 = ((σ392 86 36) + 1) := (congrFun (congrFun e461 86) 36).trans rfl; have hw2 : σ460 86 37 = (σ 86 37) := (congrFun (congrFun e461 86) 37).trans ((hk396).trans rfl); omega) (by have hw0 : σ460 86 39 = (σ 86 39) := (congrFun (congrFun e461 86) 39).trans ((hk398).trans rfl); have hw1 : σ460 86 36 = ((σ392 86 36) + 1) := (congrFun (congrFun e461 86) 36).trans rfl; have hw2 : σ460 86 37 = (σ 86 37) := (congrFun (congrFun e461 86) 37).trans ((hk396).trans rfl); omega) (by have hw0 : σ460 86 39 = (σ 86 39) := (congrFun (congrFun e461 86) 39).trans ((hk398).trans rfl); have hw1 : σ460 86 36 = ((σ392 86 36) + 1) := (congrFun (congrFun e461 86) 36).trans rfl; have hw2 : σ460 86 37 = (σ 86 37) := (congrFun (congrFun e461 86) 37).trans ((hk396).trans rfl); omega) (by have hw0 : σ460 86 39 = (σ 86 39) := (congrFun (congrFun e461 86) 39).trans ((hk398).trans rfl); have hw1 : σ460 86 36 = ((σ392 86 36) + 1) := (congrFun (congrFun e461 86) 36).trans rfl; have hw2 : σ460 86 37 = (σ 86 37) := (congrFun (congrFun e461 86) 37).trans ((hk396).trans rfl); omega) (by have hw0 : σ460 86 39 = (σ 86 39) := (congrFun (congrFun e461 86) 39).trans ((hk398).trans rfl); have hw1 : σ460 86 36 = ((σ392 86 36) + 1) := (congrFun (congrFun e461 86) 36).trans rfl; have hw2 : σ460 86 37 = (σ 86 37) := (congrFun (congrFun e461 86) 37).trans ((hk396).trans rfl); omega)
            exact hL406 ((4 - 0 + 1 : Int)).toNat _ 0 0 σ (by omega) rfl rfl rfl (by decide) (by decide) hI hF0 (rfl) (rfl) (rfl) (by have hw0 : σ 86 39 = (σ 86 39) := rfl; have hw1 : σ 86 36 = (σ 86 36) := rfl; have hw2 : σ 86 37 = (σ 86 37) := rfl; omega) (by have hw0 : σ 86 39 = (σ 86 39) := rfl; have hw1 : σ 86 36 = (σ 86 36) := rfl; have hw2 : σ 86 37 = (σ 86 37) := rfl; omega) (by have hw0 : σ 86 39 = (σ 86 39) := rfl; have hw1 : σ 86 36 = (σ 86 36) := rfl; have hw2 : σ 86 37 = (σ 86 37) := rfl; omega) (by have hw0 : σ 86 39 = (σ 86 39) := rfl; have hw1 : σ 86 36 = (σ 86 36) := rfl; have hw2 : σ 86 37 = (σ 86 37) := rfl; omega) (by have hw0 : σ 86 39 = (σ 86 39) := rfl; have hw1 : σ 86 36 = (σ 86 36) := rfl; have hw2 : σ 86 37 = (σ 86 37) := rfl; omega)
          · skip
            refine qr_aload_n 155 rfl rfl rfl ?_
            refine qr_dup 156 rfl rfl rfl ?_
            refine qr_get 159 rfl rfl rfl (by decide) rfl ?_
            refine qr_iconst 160 rfl rfl ?_
            refine qr_iadd 161 rfl rfl ?_
            refine qr_put 164 rfl (by decide) rfl (Nat.le_of_ble_eq_true rfl) (Nat.le_of_ble_eq_true rfl) (Or.inl rfl) (qr_fitI rfl _) rfl ?_
            refine qy_wS (qw_s σ 86 36 ((σ 86 36) + 1)) rfl (fun σ464 e465 => ?_)
            have hI466 : qI σ464 α κ ρ := by rw [e465]; exact qI_s hI 86 36 rfl (show 0 ≤ ((σ 86 36) + 1) ∧ ((σ 86 36) + 1) ≤ 120 by omega)
            have hF467 : qFr [(86, 36), (86, 38), (86, 39)] [] σ α σ464 α := by rw [e465]; exact qFr_s hF0 86 36 _ (by decide)
            refine qr_aload_n 165 rfl rfl rfl ?_
            refine qr_get 168 rfl rfl rfl (by decide) rfl ?_
            refine qr_iload_n 169 rfl rfl rfl ?_
            refine qr_iaload 170 rfl rfl (by omega) (by decide) rfl ?_
            refine qr_topI (fun v468 hv468 => ?_)
            have hs469 : (-2147483648) ≤ v468 ∧ v468 ≤ 2147483647 := by rw [hv468]; exact hI466.2.1 109 _ (show _ < 9 from qrgt hv113 (by decide) (by decide))
            refine qr_retI rfl rfl (by decide) (by decide) ?_
            have hw470 : σ464 86 36 = ((σ 86 36) + 1) := (congrFun (congrFun e465 86) 36).trans rfl
            have hw471 : σ464 86 37 = (σ 86 37) := (congrFun (congrFun e465 86) 37).trans rfl
            have hw472 : σ464 86 39 = (σ 86 39) := (congrFun (congrFun e465 86) 39).trans rfl
            exact ⟨_, rfl, hI466, hF467, v468, rfl, hs469, by omega⟩
        · skip
          refine qr_aload_n 33 rfl rfl rfl ?_
          refine qr_get 36 rfl rfl rfl (by decide) rfl ?_
          refine qr_bipush 38 rfl (by decide) rfl ?_
          refine qr_icmp_ne 46 41 rfl rfl rfl (qrg hz86_39 (by decide) (by decide)) (by decide) (fun h473 => ?_) (fun h473 => ?_)
          · skip
            refine qr_aload_n 47 rfl rfl rfl ?_
            refine qr_dup 48 rfl rfl rfl ?_
            refine qr_get 51 rfl rfl rfl (by decide) rfl ?_
            refine qr_iconst 52 rfl rfl ?_
            refine qr_iadd 53 rfl rfl ?_
            refine qr_put 56 rfl (by decide) rfl (Nat.le_of_ble_eq_true rfl) (Nat.le_of_ble_eq_true rfl) (Or.inl rfl) (qr_fitI rfl _) rfl ?_
            refine qy_wS (qw_s σ 86 39 ((σ 86 39) + 1)) rfl (fun σ474 e475 => ?_)
            have hI476 : qI σ474 α κ ρ := by rw [e475]; exact qI_s hI 86 39 rfl (show 0 ≤ ((σ 86 39) + 1) ∧ ((σ 86 39) + 1) ≤ 6 by omega)
            have hF477 : qFr [(86, 36), (86, 38), (86, 39)] [] σ α σ474 α := by rw [e475]; exact qFr_s hF0 86 39 _ (by decide)
            refine qr_aload_n 57 rfl rfl rfl ?_
            refine qr_dup 58 rfl rfl rfl ?_
            refine qr_get 61 rfl rfl rfl (by decide) rfl ?_
            refine qy_v (σ 86 36) ((congrFun (congrFun e475 86) 36).trans rfl) ?_
            refine qr_iconst 62 rfl rfl ?_
            refine qr_iadd 63 rfl rfl ?_
            refine qr_put 66 rfl (by decide) rfl (Nat.le_of_ble_eq_true rfl) (Nat.le_of_ble_eq_true rfl) (Or.inl rfl) (qr_fitI rfl _) rfl ?_
            refine qy_wS (qw_s σ474 86 36 ((σ 86 36) + 1)) rfl (fun σ478 e479 => ?_)
            have hI480 : qI σ478 α κ ρ := by rw [e479]; exact qI_s hI476 86 36 rfl (show 0 ≤ ((σ 86 36) + 1) ∧ ((σ 86 36) + 1) ≤ 120 by omega)
            have hF481 : qFr [(86, 36), (86, 38), (86, 39)] [] σ α σ478 α := by rw [e479]; exact qFr_s hF477 86 36 _ (by decide)
            refine qr_iload_n 67 rfl rfl rfl ?_
            refine qr_bipush 69 rfl (by decide) rfl ?_
            refine qr_icmp_ne 79 72 rfl rfl rfl hv3 (by decide) (fun h => False.elim (by omega)) (fun h482 => ?_)
            refine qr_aload_n 73 rfl rfl rfl ?_
            have hs483 : 0 ≤ σ478 86 36 ∧ σ478 86 36 ≤ 120 := hI480.1 86 36
            have hs484 : σ478 86 36 = ((σ 86 36) + 1) := (congrFun (congrFun e479 86) 36).trans rfl
            have hs485 : 0 ≤ σ478 86 37 ∧ σ478 86 37 ≤ 120 := hI480.1 86 37
            have hs486 : σ478 86 37 = (σ 86 37) := (congrFun (congrFun e479 86) 37).trans ((congrFun (congrFun e475 86) 37).trans rfl)
            have hs487 : 0 ≤ σ478 86 39 ∧ σ478 86 39 ≤ 6 := hI480.1 86 39
            have hs488 : σ478 86 39 = ((σ 86 39) + 1) := (congrFun (congrFun e479 86) 39).trans ((congrFun (congrFun e475 86) 39).trans rfl)
            refine qr_callN 76 rfl rfl rfl (sf_214_86o1 (d := d + 0) hI480 (by omega) (by omega)) ?_
            have hs491 : 0 ≤ σ478 86 36 ∧ σ478 86 36 ≤ 120 := hI480.1 86 36
            have hs492 : σ478 86 36 = ((σ 86 36) + 1) := (congrFun (congrFun e479 86) 36).trans rfl
            have hs493 : 0 ≤ σ478 86 37 ∧ σ478 86 37 ≤ 120 := hI480.1 86 37
            have hs494 : σ478 86 37 = (σ 86 37) := (congrFun (congrFun e479 86) 37).trans ((congrFun (congrFun e475 86) 37).trans rfl)
            have hs495 : 0 ≤ σ478 86 39 ∧ σ478 86 39 ≤ 6 := hI480.1 86 39
            have hs496 : σ478 86 39 = ((σ 86 39) + 1) := (congrFun (congrFun e479 86) 39).trans ((congrFun (congrFun e475 86) 39).trans rfl)
            rintro _ _ ⟨σ497, rfl, hI498, hG499, v489, rfl, hv489, hp490⟩
            have hF500 : qFr [(86, 36), (86, 38), (86, 39)] [] σ α σ497 α := qFr_t hF481 hG499 (by decide) (by decide)
            have hs501 : 0 ≤ σ497 86 36 ∧ σ497 86 36 ≤ 120 := hI498.1 86 36
            have hs502 : 0 ≤ σ497 86 37 ∧ σ497 86 37 ≤ 120 := hI498.1 86 37
            have hs503 : 0 ≤ σ497 86 39 ∧ σ497 86 39 ≤ 6 := hI498.1 86 39
            show qr_W (qe L xs vb) (d + 37) qx_e219 _ (76, _, [.int (qz v489)], qw σ497 α κ ρ, 0, 0)
            refine qr_goto 83 rfl rfl ?_
            refine qr_istore_n _ 84 rfl (by decide) rfl rfl ?_
            refine qr_iload_n 85 rfl rfl rfl ?_
            refine qr_bipush 87 rfl (by decide) rfl ?_
            refine qr_icmp_ne 104 90 rfl rfl rfl hv3 (by decide) (fun h => False.elim (by omega)) (fun h504 => ?_)
            refine qr_aload_n 91 rfl rfl rfl ?_
            refine qr_bipush 93 rfl (by decide) rfl ?_
            refine qr_callN 96 rfl rfl rfl (sf_222_86t (d := d + 35) hI498 (by decide) (by omega)) ?_
            have hs507 : 0 ≤ σ497 86 36 ∧ σ497 86 36 ≤ 120 := hI498.1 86 36
            have hs508 : 0 ≤ σ497 86 37 ∧ σ497 86 37 ≤ 120 := hI498.1 86 37
            have hs509 : σ497 86 37 = (σ 86 37) := (hG499.1 86 37 (by decide)).trans ((congrFun (congrFun e479 86) 37).trans ((congrFun (congrFun e475 86) 37).trans rfl))
            rintro _ _ ⟨σ510, rfl, hI511, hG512, v505, rfl, hv505, hp506⟩
            have hF513 : qFr [(86, 36), (86, 38), (86, 39)] [] σ α σ510 α := qFr_t hF500 hG512 (by decide) (by decide)
            have hs514 : 0 ≤ σ510 86 36 ∧ σ510 86 36 ≤ 120 := hI511.1 86 36
            show qr_W (qe L xs vb) (d + 37) qx_e219 _ (96, _, [.int (qz v505)], qw σ510 α κ ρ, 0, 0)
            refine qr_if_ne 104 99 rfl rfl rfl (qrg hv505 (by decide) (by decide)) (fun h515 => ?_) (fun h515 => ?_)
            · skip
              refine qr_aload_n 105 rfl rfl rfl ?_
              refine qr_dup 106 rfl rfl rfl ?_
              refine qr_get 109 rfl rfl rfl (by decide) rfl ?_
              refine qy_v (σ497 86 39) ((hG512.1 86 39 (by decide)).trans rfl) ?_
              refine qr_iconst 110 rfl rfl ?_
              refine qr_isub 111 rfl rfl ?_
              as_aux_lemma =>
                refine qr_put 114 rfl (by decide) rfl (Nat.le_of_ble_eq_true rfl) (Nat.le_of_ble_eq_true rfl) (Or.inl rfl) (qr_fitI rfl _) rfl ?_
                refine qy_wS (qw_s σ510 86 39 ((σ497 86 39) - 1)) rfl (fun σ516 e517 => ?_)
                have hI518 : qI σ516 α κ ρ := by rw [e517]; exact qI_s hI511 86 39 rfl (show 0 ≤ ((σ497 86 39) - 1) ∧ ((σ497 86 39) - 1) ≤ 6 by omega)
                have hF519 : qFr [(86, 36), (86, 38), (86, 39)] [] σ α σ516 α := by rw [e517]; exact qFr_s hF513 86 39 _ (by decide)
                refine qr_iload_n 115 rfl rfl rfl ?_
                refine qr_bipush 117 rfl (by decide) rfl ?_
                refine qr_icmp_ne 124 120 rfl rfl rfl hv3 (by decide) (fun h => False.elim (by omega)) (fun h520 => ?_)
                refine qr_iload_n 121 rfl rfl rfl ?_
                refine qr_goto 144 rfl rfl ?_
                refine qr_retI rfl rfl (by decide) (by decide) ?_
                have hw521 : σ516 86 36 = (σ510 86 36) := (congrFun (congrFun e517 86) 36).trans rfl
                have hw522 : σ516 86 37 = (σ 86 37) := (congrFun (congrFun e517 86) 37).trans ((hG512.1 86 37 (by decide)).trans ((hG499.1 86 37 (by decide)).trans ((congrFun (congrFun e479 86) 37).trans ((congrFun (congrFun e475 86) 37).trans rfl))))
                have hw523 : σ516 86 39 = ((σ497 86 39) - 1) := (congrFun (congrFun e517 86) 39).trans rfl
                exact ⟨_, rfl, hI518, hF519, v489, rfl, hv489, by omega⟩
            · skip
              refine qr_aload_n 100 rfl rfl rfl ?_
              refine qr_callN 103 rfl rfl rfl (sf_221_86 (d := d + 36) hI511 ) ?_
              rintro _ _ ⟨σ525, rfl, hI526, hG527, v524, rfl, hv524⟩
              have hF528 : qFr [(86, 36), (86, 38), (86, 39)] [] σ α σ525 α := qFr_t hF513 hG527 (by decide) (by decide)
              show qr_W (qe L xs vb) (d + 37) qx_e219 _ (103, _, [.int (qz v524)], qw σ525 α κ ρ, 0, 0)
              refine qr_retI rfl rfl (by decide) (by decide) ?_
              have hw529 : σ525 86 36 = (σ510 86 36) := (hG527.1 86 36 (by decide)).trans rfl
              have hw530 : σ525 86 37 = (σ 86 37) := (hG527.1 86 37 (by decide)).trans ((hG512.1 86 37 (by decide)).trans ((hG499.1 86 37 (by decide)).trans ((congrFun (congrFun e479 86) 37).trans ((congrFun (congrFun e475 86) 37).trans rfl))))
              have hw531 : σ525 86 39 = (σ497 86 39) := (hG527.1 86 39 (by decide)).trans ((hG512.1 86 39 (by decide)).trans rfl)
              exact ⟨_, rfl, hI526, hF528, v524, rfl, (qrg hv524 (by decide) (by decide)), by omega⟩
          · skip
            refine qr_aload_n 42 rfl rfl rfl ?_
            refine qr_callN 45 rfl rfl rfl (sf_221_86 (d := d + 36) hI ) ?_
            rintro _ _ ⟨σ533, rfl, hI534, hG535, v532, rfl, hv532⟩
            have hF536 : qFr [(86, 36), (86, 38), (86, 39)] [] σ α σ533 α := qFr_t hF0 hG535 (by decide) (by decide)
            show qr_W (qe L xs vb) (d + 37) qx_e219 _ (45, _, [.int (qz v532)], qw σ533 α κ ρ, 0, 0)
            refine qr_retI rfl rfl (by decide) (by decide) ?_
            have hw537 : σ533 86 36 = (σ 86 36) := (hG535.1 86 36 (by decide)).trans rfl
            have hw538 : σ533 86 37 = (σ 86 37) := (hG535.1 86 37 (by decide)).trans rfl
            have hw539 : σ533 86 39 = (σ 86 39) := (hG535.1 86 39 (by decide)).trans rfl
            exact ⟨_, rfl, hI534, hF536, v532, rfl, (qrg hv532 (by decide) (by decide)), by omega⟩
  · skip
    refine qr_iconst 8 rfl rfl ?_
    refine qr_retI rfl rfl (by decide) (by decide) ?_
    have hw540 : σ 86 36 = (σ 86 36) := rfl
    have hw541 : σ 86 37 = (σ 86 37) := rfl
    have hw542 : σ 86 39 = (σ 86 39) := rfl
    exact ⟨_, rfl, hI, hF0, 0, rfl, (by decide), by omega⟩

set_option maxHeartbeats 4000000 in
set_option maxRecDepth 20000 in
/-- OneRoofModel.product -/
theorem sf_218_86o0 {L : Nat} {xs : Nat → Int} {vb : Bool} {d : Nat} {σ α : Nat → Nat → Int} {κ : Nat → Option Nat} {ρ : Nat}  (hI : qI σ α κ ρ) (p0 : 0 ≤ σ 86 39) (p1 : σ 86 36 ≤ σ 86 37) : qm_T (qe L xs vb) (d + 39) 218 [.ref 86] (qw σ α κ ρ) (fun r w' => ∃ σ', w' = qw σ' α κ ρ ∧ qI σ' α κ ρ ∧ qFr [(86, 36), (86, 38), (86, 39)] [] σ α σ' α ∧ ∃ v : Int, r = some (.int (qz v)) ∧ ((-2147483648) ≤ v ∧ v ≤ 2147483647) ∧ σ 86 39 ≤ σ' 86 39 ∧ σ 86 36 ≤ σ' 86 36 ∧ σ' 86 36 ≤ σ' 86 37 ∧ σ' 86 37 = σ 86 37) := by
  refine qr_start (d := d + 38) qv_e218 (Nat.le_of_ble_eq_true rfl) ?_
  show qr_W (qe L xs vb) (d + 38) qx_e218 _ (0, [(0, .ref 86)], [], _, 0, 0)
  have hF0 := qFr_rf [(86, 36), (86, 38), (86, 39)] [] σ α
  have hz86_39 : 0 ≤ σ 86 39 ∧ σ 86 39 ≤ 6 := hI.1 86 39
  have hz86_36 : 0 ≤ σ 86 36 ∧ σ 86 36 ≤ 120 := hI.1 86 36
  have hz86_37 : 0 ≤ σ 86 37 ∧ σ 86 37 ≤ 120 := hI.1 86 37
  refine qr_aload_n 1 rfl rfl rfl ?_
  have hs1 : 0 ≤ σ 86 36 ∧ σ 86 36 ≤ 120 := hI.1 86 36
  have hs2 : 0 ≤ σ 86 37 ∧ σ 86 37 ≤ 120 := hI.1 86 37
  have hs3 : 0 ≤ σ 86 39 ∧ σ 86 39 ≤ 6 := hI.1 86 39
  refine qr_callN 4 rfl rfl rfl (sf_219_86o0 (d := d + 0) hI (by omega) (by omega)) ?_
  have hs6 : 0 ≤ σ 86 36 ∧ σ 86 36 ≤ 120 := hI.1 86 36
  have hs7 : 0 ≤ σ 86 37 ∧ σ 86 37 ≤ 120 := hI.1 86 37
  have hs8 : 0 ≤ σ 86 39 ∧ σ 86 39 ≤ 6 := hI.1 86 39
  rintro _ _ ⟨σ9, rfl, hI10, hG11, v4, rfl, hv4, hp5⟩
  have hF12 : qFr [(86, 36), (86, 38), (86, 39)] [] σ α σ9 α := qFr_t hF0 hG11 (by decide) (by decide)
  have hs13 : 0 ≤ σ9 86 36 ∧ σ9 86 36 ≤ 120 := hI10.1 86 36
  have hs14 : 0 ≤ σ9 86 37 ∧ σ9 86 37 ≤ 120 := hI10.1 86 37
  have hs15 : 0 ≤ σ9 86 39 ∧ σ9 86 39 ≤ 6 := hI10.1 86 39
  show qr_W (qe L xs vb) (d + 38) qx_e218 _ (4, _, [.int (qz v4)], qw σ9 α κ ρ, 0, 0)
  refine qr_istore_n _ 5 rfl (by decide) rfl rfl ?_
  refine qr_aload_n 6 rfl rfl rfl ?_
  refine qr_callN 9 rfl rfl rfl (sf_220_86t (d := d + 37) hI10 ) ?_
  have hs18 : 0 ≤ σ9 86 36 ∧ σ9 86 36 ≤ 120 := hI10.1 86 36
  have hs19 : 0 ≤ σ9 86 37 ∧ σ9 86 37 ≤ 120 := hI10.1 86 37
  have hs20 : σ9 86 37 = (σ 86 37) := (hG11.1 86 37 (by decide)).trans rfl
  rintro _ _ ⟨rfl, v16, rfl, hv16, hp17⟩
  show qr_W (qe L xs vb) (d + 38) qx_e218 _ (9, _, [.int (qz v16)], qw σ9 α κ ρ, 0, 0)
  refine qr_istore_n _ 10 rfl (by decide) rfl rfl ?_
  have hL459 : ∀ (n : Nat) (ls : qm_L) (u443 u445 : Int) (σ446 : Nat → Nat → Int), ((120 - σ446 86 36).toNat : Int) < (n : Int) → qm_get ls 0 = some (.ref 86) → qm_get ls 1 = some (.int (qz u443)) → qm_get ls 2 = some (.int (qz u445)) → ((-2147483648) ≤ u443 ∧ u443 ≤ 2147483647) → ((-2147483648) ≤ u445 ∧ u445 ≤ 2147483647) → qI σ446 α κ ρ → qFr [(86, 36), (86, 38), (86, 39)] [] σ α σ446 α → σ446 86 37 = (σ 86 37) → 0 ≤ σ446 86 39 → σ 86 39 ≤ σ446 86 39 → σ 86 36 ≤ σ446 86 36 → σ446 86 36 ≤ σ446 86 37 → σ446 86 37 = σ 86 37 → (u445 = 0 ∨ σ446 86 36 < σ446 86 37) → qr_W (qe L xs vb) (d + 38) qx_e218 (fun r w' => ∃ σ', w' = qw σ' α κ ρ ∧ qI σ' α κ ρ ∧ qFr [(86, 36), (86, 38), (86, 39)] [] σ α σ' α ∧ ∃ v : Int, r = some (.int (qz v)) ∧ ((-2147483648) ≤ v ∧ v ≤ 2147483647) ∧ σ 86 39 ≤ σ' 86 39 ∧ σ 86 36 ≤ σ' 86 36 ∧ σ' 86 36 ≤ σ' 86 37 ∧ σ' 86 37 = σ 86 37) (10, ls, [], qw σ446 α κ ρ, 0, 0) := by
    intro n
    induction n with
    | zero => intro ls u443 u445 σ446 hm g441 g442 g444 hf451 hf452 hI448 hF449 hk450 hx453 hx454 hx455 hx456 hx457 hx458; exact False.elim (by omega)
    | succ n ih460 =>
      intro ls u443 u445 σ446 hm g441 g442 g444 hf451 hf452 hI448 hF449 hk450 hx453 hx454 hx455 hx456 hx457 hx458
      have hs461 : 0 ≤ σ446 86 39 ∧ σ446 86 39 ≤ 6 := hI448.1 86 39
      have hs462 : 0 ≤ σ446 86 36 ∧ σ446 86 36 ≤ 120 := hI448.1 86 36
      have hs463 : 0 ≤ σ446 86 37 ∧ σ446 86 37 ≤ 120 := hI448.1 86 37
      refine qr_aload_n 11 rfl g441 rfl ?_
      refine qr_get 14 rfl rfl rfl (by decide) rfl ?_
      have hs464 : (-1) ≤ σ446 86 38 ∧ σ446 86 38 ≤ 120 := hI448.1 86 38
      refine qr_if_ge 94 17 rfl rfl rfl (qrg hs464 (by decide) (by decide)) (fun h465 => ?_) (fun h465 => ?_)
      · skip
        refine qr_iload_n 95 rfl g442 rfl ?_
        refine qr_retI rfl rfl (by decide) (by decide) ?_
        have hw466 : σ446 86 36 = (σ446 86 36) := rfl
        have hw467 : σ446 86 37 = (σ 86 37) := (hk450).trans rfl
        have hw468 : σ446 86 39 = (σ446 86 39) := rfl
        exact ⟨_, rfl, hI448, hF449, u443, rfl, hf451, by omega⟩
      · skip
        refine qr_iload_n 18 rfl g444 rfl ?_
        refine qr_bipush 20 rfl (by decide) rfl ?_
        refine qr_icmp_eq 35 23 rfl rfl rfl hf452 (by decide) (fun h469 => ?_) (fun h469 => ?_)
        · skip
          refine qr_aload_n 36 rfl g441 rfl ?_
          refine qr_dup 37 rfl rfl rfl ?_
          refine qr_get 40 rfl rfl rfl (by decide) rfl ?_
          refine qr_iconst 41 rfl rfl ?_
          refine qr_iadd 42 rfl rfl ?_
          refine qr_put 45 rfl (by decide) rfl (Nat.le_of_ble_eq_true rfl) (Nat.le_of_ble_eq_true rfl) (Or.inl rfl) (qr_fitI rfl _) rfl ?_
          refine qy_wS (qw_s σ446 86 36 ((σ446 86 36) + 1)) rfl (fun σ470 e471 => ?_)
          have hI472 : qI σ470 α κ ρ := by rw [e471]; exact qI_s hI448 86 36 rfl (show 0 ≤ ((σ446 86 36) + 1) ∧ ((σ446 86 36) + 1) ≤ 120 by omega)
          have hF473 : qFr [(86, 36), (86, 38), (86, 39)] [] σ α σ470 α := by rw [e471]; exact qFr_s hF449 86 36 _ (by decide)
          refine qr_aload_n 46 rfl g441 rfl ?_
          have hs474 : 0 ≤ σ470 86 36 ∧ σ470 86 36 ≤ 120 := hI472.1 86 36
          have hs475 : σ470 86 36 = ((σ446 86 36) + 1) := (congrFun (congrFun e471 86) 36).trans rfl
          have hs476 : 0 ≤ σ470 86 37 ∧ σ470 86 37 ≤ 120 := hI472.1 86 37
          have hs477 : σ470 86 37 = (σ 86 37) := (congrFun (congrFun e471 86) 37).trans ((hk450).trans rfl)
          have hs478 : 0 ≤ σ470 86 39 ∧ σ470 86 39 ≤ 6 := hI472.1 86 39
          have hs479 : σ470 86 39 = (σ446 86 39) := (congrFun (congrFun e471 86) 39).trans rfl
          refine qr_callN 49 rfl rfl rfl (sf_219_86o0 (d := d + 0) hI472 (by omega) (by omega)) ?_
          have hs482 : 0 ≤ σ470 86 36 ∧ σ470 86 36 ≤ 120 := hI472.1 86 36
          have hs483 : σ470 86 36 = ((σ446 86 36) + 1) := (congrFun (congrFun e471 86) 36).trans rfl
          have hs484 : 0 ≤ σ470 86 37 ∧ σ470 86 37 ≤ 120 := hI472.1 86 37
          have hs485 : σ470 86 37 = (σ 86 37) := (congrFun (congrFun e471 86) 37).trans ((hk450).trans rfl)
          have hs486 : 0 ≤ σ470 86 39 ∧ σ470 86 39 ≤ 6 := hI472.1 86 39
          have hs487 : σ470 86 39 = (σ446 86 39) := (congrFun (congrFun e471 86) 39).trans rfl
          rintro _ _ ⟨σ488, rfl, hI489, hG490, v480, rfl, hv480, hp481⟩
          have hF491 : qFr [(86, 36), (86, 38), (86, 39)] [] σ α σ488 α := qFr_t hF473 hG490 (by decide) (by decide)
          have hs492 : 0 ≤ σ488 86 36 ∧ σ488 86 36 ≤ 120 := hI489.1 86 36
          have hs493 : 0 ≤ σ488 86 37 ∧ σ488 86 37 ≤ 120 := hI489.1 86 37
          have hs494 : 0 ≤ σ488 86 39 ∧ σ488 86 39 ≤ 6 := hI489.1 86 39
          show qr_W (qe L xs vb) (d + 38) qx_e218 _ (49, _, [.int (qz v480)], qw σ488 α κ ρ, 0, 0)
          refine qr_istore_n _ 50 rfl (by decide) rfl rfl ?_
          refine qr_iload_n 51 rfl (qm_gk g444 (by decide) (Or.inr rfl)) rfl ?_
          refine qr_bipush 53 rfl (by decide) rfl ?_
          refine qr_icmp_ne 62 56 rfl rfl rfl hf452 (by decide) (fun h => False.elim (by omega)) (fun h495 => ?_)
          refine qr_iload_n 57 rfl (qm_gk g442 (by decide) (Or.inl (by decide))) rfl ?_
          refine qr_iload_n 58 rfl (qm_ge _ _ _) rfl ?_
          refine qr_imul 59 rfl rfl ?_
          refine qy_can (fun v496 hv496 => ?_)
          refine qr_goto 85 rfl rfl ?_
          refine qr_istore_n _ 86 rfl (by decide) rfl rfl ?_
          refine qr_aload_n 87 rfl (qm_gk (qm_gk g441 (by decide) (Or.inl (by decide))) (by decide) (Or.inr rfl)) rfl ?_
          refine qr_callN 90 rfl rfl rfl (sf_220_86t (d := d + 37) hI489 ) ?_
          have hs499 : 0 ≤ σ488 86 36 ∧ σ488 86 36 ≤ 120 := hI489.1 86 36
          have hs500 : 0 ≤ σ488 86 37 ∧ σ488 86 37 ≤ 120 := hI489.1 86 37
          have hs501 : σ488 86 37 = (σ 86 37) := (hG490.1 86 37 (by decide)).trans ((congrFun (congrFun e471 86) 37).trans ((hk450).trans rfl))
          rintro _ _ ⟨rfl, v497, rfl, hv497, hp498⟩
          show qr_W (qe L xs vb) (d + 38) qx_e218 _ (90, _, [.int (qz v497)], qw σ488 α κ ρ, 0, 0)
          refine qr_istore_n _ 91 rfl (by decide) rfl rfl ?_
          refine qr_goto 10 rfl rfl ?_
          exact ih460 _ v496 v497 σ488 (by omega) (qm_gk (qm_gk (qm_gk g441 (by decide) (Or.inl (by decide))) (by decide) (Or.inr rfl)) (by decide) (Or.inl (by decide))) (qm_gk (qm_ge _ _ _) (by decide) (Or.inr rfl)) (qm_ge _ _ _) hv496 hv497 hI489 hF491 ((hG490.1 86 37 (by decide)).trans ((congrFun (congrFun e471 86) 37).trans ((hk450).trans rfl))) (by have hw0 : σ488 86 39 = (σ488 86 39) := rfl; have hw1 : σ488 86 36 = (σ488 86 36) := rfl; have hw2 : σ488 86 37 = (σ 86 37) := (hG490.1 86 37 (by decide)).trans ((congrFun (congrFun e471 86) 37).trans ((hk450).trans rfl)); omega) (by have hw0 : σ488 86 39 = (σ488 86 39) := rfl; have hw1 : σ488 86 36 = (σ488 86 36) := rfl; have hw2 : σ488 86 37 = (σ 86 37) := (hG490.1 86 37 (by decide)).trans ((congrFun (congrFun e471 86) 37).trans ((hk450).trans rfl)); omega) (by have hw0 : σ488 86 39 = (σ488 86 39) := rfl; have hw1 : σ488 86 36 = (σ488 86 36) := rfl; have hw2 : σ488 86 37 = (σ 86 37) := (hG490.1 86 37 (by decide)).trans ((congrFun (congrFun e471 86) 37).trans ((hk450).trans rfl)); omega) (by have hw0 : σ488 86 39 = (σ488 86 39) := rfl; have hw1 : σ488 86 36 = (σ488 86 36) := rfl; have hw2 : σ488 86 37 = (σ 86 37) := (hG490.1 86 37 (by decide)).trans ((congrFun (congrFun e471 86) 37).trans ((hk450).trans rfl)); omega) (by have hw0 : σ488 86 39 = (σ488 86 39) := rfl; have hw1 : σ488 86 36 = (σ488 86 36) := rfl; have hw2 : σ488 86 37 = (σ 86 37) := (hG490.1 86 37 (by decide)).trans ((congrFun (congrFun e471 86) 37).trans ((hk450).trans rfl)); omega) (by have hw0 : σ488 86 39 = (σ488 86 39) := rfl; have hw1 : σ488 86 36 = (σ488 86 36) := rfl; have hw2 : σ488 86 37 = (σ 86 37) := (hG490.1 86 37 (by decide)).trans ((congrFun (congrFun e471 86) 37).trans ((hk450).trans rfl)); omega)
        · skip
          refine qr_iload_n 24 rfl g444 rfl ?_
          refine qr_bipush 26 rfl (by decide) rfl ?_
          refine qr_icmp_eq 35 29 rfl rfl rfl hf452 (by decide) (fun h502 => ?_) (fun h502 => ?_)
          · skip
            refine qr_aload_n 36 rfl g441 rfl ?_
            refine qr_dup 37 rfl rfl rfl ?_
            refine qr_get 40 rfl rfl rfl (by decide) rfl ?_
            refine qr_iconst 41 rfl rfl ?_
            refine qr_iadd 42 rfl rfl ?_
            refine qr_put 45 rfl (by decide) rfl (Nat.le_of_ble_eq_true rfl) (Nat.le_of_ble_eq_true rfl) (Or.inl rfl) (qr_fitI rfl _) rfl ?_
            refine qy_wS (qw_s σ446 86 36 ((σ446 86 36) + 1)) rfl (fun σ503 e504 => ?_)
            have hI505 : qI σ503 α κ ρ := by rw [e504]; exact qI_s hI448 86 36 rfl (show 0 ≤ ((σ446 86 36) + 1) ∧ ((σ446 86 36) + 1) ≤ 120 by omega)
            have hF506 : qFr [(86, 36), (86, 38), (86, 39)] [] σ α σ503 α := by rw [e504]; exact qFr_s hF449 86 36 _ (by decide)
            refine qr_aload_n 46 rfl g441 rfl ?_
            have hs507 : 0 ≤ σ503 86 36 ∧ σ503 86 36 ≤ 120 := hI505.1 86 36
            have hs508 : σ503 86 36 = ((σ446 86 36) + 1) := (congrFun (congrFun e504 86) 36).trans rfl
            have hs509 : 0 ≤ σ503 86 37 ∧ σ503 86 37 ≤ 120 := hI505.1 86 37
            have hs510 : σ503 86 37 = (σ 86 37) := (congrFun (congrFun e504 86) 37).trans ((hk450).trans rfl)
            have hs511 : 0 ≤ σ503 86 39 ∧ σ503 86 39 ≤ 6 := hI505.1 86 39
            have hs512 : σ503 86 39 = (σ446 86 39) := (congrFun (congrFun e504 86) 39).trans rfl
            refine qr_callN 49 rfl rfl rfl (sf_219_86o0 (d := d + 0) hI505 (by omega) (by omega)) ?_
            have hs515 : 0 ≤ σ503 86 36 ∧ σ503 86 36 ≤ 120 := hI505.1 86 36
            have hs516 : σ503 86 36 = ((σ446 86 36) + 1) := (congrFun (congrFun e504 86) 36).trans rfl
            have hs517 : 0 ≤ σ503 86 37 ∧ σ503 86 37 ≤ 120 := hI505.1 86 37
            have hs518 : σ503 86 37 = (σ 86 37) := (congrFun (congrFun e504 86) 37).trans ((hk450).trans rfl)
            have hs519 : 0 ≤ σ503 86 39 ∧ σ503 86 39 ≤ 6 := hI505.1 86 39
            have hs520 : σ503 86 39 = (σ446 86 39) := (congrFun (congrFun e504 86) 39).trans rfl
            rintro _ _ ⟨σ521, rfl, hI522, hG523, v513, rfl, hv513, hp514⟩
            have hF524 : qFr [(86, 36), (86, 38), (86, 39)] [] σ α σ521 α := qFr_t hF506 hG523 (by decide) (by decide)
            have hs525 : 0 ≤ σ521 86 36 ∧ σ521 86 36 ≤ 120 := hI522.1 86 36
            have hs526 : 0 ≤ σ521 86 37 ∧ σ521 86 37 ≤ 120 := hI522.1 86 37
            have hs527 : 0 ≤ σ521 86 39 ∧ σ521 86 39 ≤ 6 := hI522.1 86 39
            show qr_W (qe L xs vb) (d + 38) qx_e218 _ (49, _, [.int (qz v513)], qw σ521 α κ ρ, 0, 0)
            refine qr_istore_n _ 50 rfl (by decide) rfl rfl ?_
            refine qr_iload_n 51 rfl (qm_gk g444 (by decide) (Or.inr rfl)) rfl ?_
            refine qr_bipush 53 rfl (by decide) rfl ?_
            refine qr_icmp_ne 62 56 rfl rfl rfl hf452 (by decide) (fun h528 => ?_) (fun h => False.elim (by omega))
            refine qr_iload_n 63 rfl (qm_ge _ _ _) rfl ?_
            have hJ533 : ∀ (ls : qm_L) (u531 : Int), qm_get ls 0 = some (.ref 86) → ((-2147483648) ≤ u531 ∧ u531 ≤ 2147483647) → qr_W (qe L xs vb) (d + 38) qx_e218 (fun r w' => ∃ σ', w' = qw σ' α κ ρ ∧ qI σ' α κ ρ ∧ qFr [(86, 36), (86, 38), (86, 39)] [] σ α σ' α ∧ ∃ v : Int, r = some (.int (qz v)) ∧ ((-2147483648) ≤ v ∧ v ≤ 2147483647) ∧ σ 86 39 ≤ σ' 86 39 ∧ σ 86 36 ≤ σ' 86 36 ∧ σ' 86 36 ≤ σ' 86 37 ∧ σ' 86 37 = σ 86 37) (85, ls, [.int (qz u531)], qw σ521 α κ ρ, 0, 0) := by
              intro ls u531 g530 hf532
              refine qr_istore_n _ 86 rfl (by decide) rfl rfl ?_
              refine qr_aload_n 87 rfl (qm_gk g530 (by decide) (Or.inr rfl)) rfl ?_
              refine qr_callN 90 rfl rfl rfl (sf_220_86t (d := d + 37) hI522 ) ?_
              have hs536 : 0 ≤ σ521 86 36 ∧ σ521 86 36 ≤ 120 := hI522.1 86 36
              have hs537 : 0 ≤ σ521 86 37 ∧ σ521 86 37 ≤ 120 := hI522.1 86 37
              have hs538 : σ521 86 37 = (σ 86 37) := (hG523.1 86 37 (by decide)).trans ((congrFun (congrFun e504 86) 37).trans ((hk450).trans rfl))
              rintro _ _ ⟨rfl, v534, rfl, hv534, hp535⟩
              show qr_W (qe L xs vb) (d + 38) qx_e218 _ (90, _, [.int (qz v534)], qw σ521 α κ ρ, 0, 0)
              refine qr_istore_n _ 91 rfl (by decide) rfl rfl ?_
              refine qr_goto 10 rfl rfl ?_
              exact ih460 _ u531 v534 σ521 (by omega) (qm_gk (qm_gk g530 (by decide) (Or.inr rfl)) (by decide) (Or.inl (by decide))) (qm_gk (qm_ge _ _ _) (by decide) (Or.inr rfl)) (qm_ge _ _ _) hf532 hv534 hI522 hF524 ((hG523.1 86 37 (by decide)).trans ((congrFun (congrFun e504 86) 37).trans ((hk450).trans rfl))) (by have hw0 : σ521 86 39 = (σ521 86 39) := rfl; have hw1 : σ521 86 36 = (σ521 86 36) := rfl; have hw2 : σ521 86 37 = (σ 86 37) := (hG523.1 86 37 (by decide)).trans ((congrFun (congrFun e504 86) 37).trans ((hk450).trans rfl)); omega) (by have hw0 : σ521 86 39 = (σ521 86 39) := rfl; have hw1 : σ521 86 36 = (σ521 86 36) := rfl; have hw2 : σ521 86 37 = (σ 86 37) := (hG523.1 86 37 (by decide)).trans ((congrFun (congrFun e504 86) 37).trans ((hk450).trans rfl)); omega) (by have hw0 : σ521 86 39 = (σ521 86 39) := rfl; have hw1 : σ521 86 36 = (σ521 86 36) := rfl; have hw2 : σ521 86 37 = (σ 86 37) := (hG523.1 86 37 (by decide)).trans ((congrFun (congrFun e504 86) 37).trans ((hk450).trans rfl)); omega) (by have hw0 : σ521 86 39 = (σ521 86 39) := rfl; have hw1 : σ521 86 36 = (σ521 86 36) := rfl; have hw2 : σ521 86 37 = (σ 86 37) := (hG523.1 86 37 (by decide)).trans ((congrFun (congrFun e504 86) 37).trans ((hk450).trans rfl)); omega) (by have hw0 : σ521 86 39 = (σ521 86 39) := rfl; have hw1 : σ521 86 36 = (σ521 86 36) := rfl; have hw2 : σ521 86 37 = (σ 86 37) := (hG523.1 86 37 (by decide)).trans ((congrFun (congrFun e504 86) 37).trans ((hk450).trans rfl)); omega) (by have hw0 : σ521 86 39 = (σ521 86 39) := rfl; have hw1 : σ521 86 36 = (σ521 86 36) := rfl; have hw2 : σ521 86 37 = (σ 86 37) := (hG523.1 86 37 (by decide)).trans ((congrFun (congrFun e504 86) 37).trans ((hk450).trans rfl)); omega)
            refine qr_if_ne 70 66 rfl rfl rfl hv513 (fun h539 => ?_) (fun h539 => ?_)
            · skip
              refine qr_iload_n 71 rfl (qm_gk g444 (by decide) (Or.inr rfl)) rfl ?_
              refine qr_bipush 73 rfl (by decide) rfl ?_
              refine qr_icmp_ne 82 76 rfl rfl rfl hf452 (by decide) (fun h => False.elim (by omega)) (fun h540 => ?_)
              refine qr_iload_n 77 rfl (qm_gk g442 (by decide) (Or.inl (by decide))) rfl ?_
              refine qr_iload_n 78 rfl (qm_ge _ _ _) rfl ?_
              refine qr_idivW 79 rfl (by omega) rfl ?_
              refine qy_can (fun v541 hv541 => ?_)
              refine qr_goto 85 rfl rfl ?_
              exact hJ533 _ v541 (qm_gk g441 (by decide) (Or.inl (by decide))) hv541
            · skip
              refine qr_iconst 67 rfl rfl ?_
              refine qr_goto 85 rfl rfl ?_
              exact hJ533 _ 0 (qm_gk g441 (by decide) (Or.inl (by decide))) (by decide)
          · skip
            refine qr_iload_n 30 rfl g444 rfl ?_
            refine qr_bipush 32 rfl (by decide) rfl ?_
            refine qr_icmp_ne 94 35 rfl rfl rfl hf452 (by decide) (fun h542 => ?_) (fun h542 => ?_)
            · skip
              refine qr_iload_n 95 rfl g442 rfl ?_
              refine qr_retI rfl rfl (by decide) (by decide) ?_
              have hw543 : σ446 86 36 = (σ446 86 36) := rfl
              have hw544 : σ446 86 37 = (σ 86 37) := (hk450).trans rfl
              have hw545 : σ446 86 39 = (σ446 86 39) := rfl
              exact ⟨_, rfl, hI448, hF449, u443, rfl, hf451, by omega⟩
            · skip
              refine qr_aload_n 36 rfl g441 rfl ?_
              refine qr_dup 37 rfl rfl rfl ?_
              refine qr_get 40 rfl rfl rfl (by decide) rfl ?_
              refine qr_iconst 41 rfl rfl ?_
              refine qr_iadd 42 rfl rfl ?_
              refine qr_put 45 rfl (by decide) rfl (Nat.le_of_ble_eq_true rfl) (Nat.le_of_ble_eq_true rfl) (Or.inl rfl) (qr_fitI rfl _) rfl ?_
              refine qy_wS (qw_s σ446 86 36 ((σ446 86 36) + 1)) rfl (fun σ546 e547 => ?_)
              have hI548 : qI σ546 α κ ρ := by rw [e547]; exact qI_s hI448 86 36 rfl (show 0 ≤ ((σ446 86 36) + 1) ∧ ((σ446 86 36) + 1) ≤ 120 by omega)
              have hF549 : qFr [(86, 36), (86, 38), (86, 39)] [] σ α σ546 α := by rw [e547]; exact qFr_s hF449 86 36 _ (by decide)
              refine qr_aload_n 46 rfl g441 rfl ?_
              have hs550 : 0 ≤ σ546 86 36 ∧ σ546 86 36 ≤ 120 := hI548.1 86 36
              have hs551 : σ546 86 36 = ((σ446 86 36) + 1) := (congrFun (congrFun e547 86) 36).trans rfl
              have hs552 : 0 ≤ σ546 86 37 ∧ σ546 86 37 ≤ 120 := hI548.1 86 37
              have hs553 : σ546 86 37 = (σ 86 37) := (congrFun (congrFun e547 86) 37).trans ((hk450).trans rfl)
              have hs554 : 0 ≤ σ546 86 39 ∧ σ546 86 39 ≤ 6 := hI548.1 86 39
              have hs555 : σ546 86 39 = (σ446 86 39) := (congrFun (congrFun e547 86) 39).trans rfl
              refine qr_callN 49 rfl rfl rfl (sf_219_86o0 (d := d + 0) hI548 (by omega) (by omega)) ?_
              have hs558 : 0 ≤ σ546 86 36 ∧ σ546 86 36 ≤ 120 := hI548.1 86 36
              have hs559 : σ546 86 36 = ((σ446 86 36) + 1) := (congrFun (congrFun e547 86) 36).trans rfl
              have hs560 : 0 ≤ σ546 86 37 ∧ σ546 86 37 ≤ 120 := hI548.1 86 37
              have hs561 : σ546 86 37 = (σ 86 37) := (congrFun (congrFun e547 86) 37).trans ((hk450).trans rfl)
              have hs562 : 0 ≤ σ546 86 39 ∧ σ546 86 39 ≤ 6 := hI548.1 86 39
              have hs563 : σ546 86 39 = (σ446 86 39) := (congrFun (congrFun e547 86) 39).trans rfl
              rintro _ _ ⟨σ564, rfl, hI565, hG566, v556, rfl, hv556, hp557⟩
              have hF567 : qFr [(86, 36), (86, 38), (86, 39)] [] σ α σ564 α := qFr_t hF549 hG566 (by decide) (by decide)
              have hs568 : 0 ≤ σ564 86 36 ∧ σ564 86 36 ≤ 120 := hI565.1 86 36
              have hs569 : 0 ≤ σ564 86 37 ∧ σ564 86 37 ≤ 120 := hI565.1 86 37
              have hs570 : 0 ≤ σ564 86 39 ∧ σ564 86 39 ≤ 6 := hI565.1 86 39
              show qr_W (qe L xs vb) (d + 38) qx_e218 _ (49, _, [.int (qz v556)], qw σ564 α κ ρ, 0, 0)
              refine qr_istore_n _ 50 rfl (by decide) rfl rfl ?_
              refine qr_iload_n 51 rfl (qm_gk g444 (by decide) (Or.inr rfl)) rfl ?_
              refine qr_bipush 53 rfl (by decide) rfl ?_
              refine qr_icmp_ne 62 56 rfl rfl rfl hf452 (by decide) (fun h571 => ?_) (fun h => False.elim (by omega))
              refine qr_iload_n 63 rfl (qm_ge _ _ _) rfl ?_
              have hJ576 : ∀ (ls : qm_L) (u574 : Int), qm_get ls 0 = some (.ref 86) → ((-2147483648) ≤ u574 ∧ u574 ≤ 2147483647) → qr_W (qe L xs vb) (d + 38) qx_e218 (fun r w' => ∃ σ', w' = qw σ' α κ ρ ∧ qI σ' α κ ρ ∧ qFr [(86, 36), (86, 38), (86, 39)] [] σ α σ' α ∧ ∃ v : Int, r = some (.int (qz v)) ∧ ((-2147483648) ≤ v ∧ v ≤ 2147483647) ∧ σ 86 39 ≤ σ' 86 39 ∧ σ 86 36 ≤ σ' 86 36 ∧ σ' 86 36 ≤ σ' 86 37 ∧ σ' 86 37 = σ 86 37) (85, ls, [.int (qz u574)], qw σ564 α κ ρ, 0, 0) := by
                intro ls u574 g573 hf575
                refine qr_istore_n _ 86 rfl (by decide) rfl rfl ?_
                refine qr_aload_n 87 rfl (qm_gk g573 (by decide) (Or.inr rfl)) rfl ?_
                refine qr_callN 90 rfl rfl rfl (sf_220_86t (d := d + 37) hI565 ) ?_
                have hs579 : 0 ≤ σ564 86 36 ∧ σ564 86 36 ≤ 120 := hI565.1 86 36
                have hs580 : 0 ≤ σ564 86 37 ∧ σ564 86 37 ≤ 120 := hI565.1 86 37
                have hs581 : σ564 86 37 = (σ 86 37) := (hG566.1 86 37 (by decide)).trans ((congrFun (congrFun e547 86) 37).trans ((hk450).trans rfl))
                rintro _ _ ⟨rfl, v577, rfl, hv577, hp578⟩
                show qr_W (qe L xs vb) (d + 38) qx_e218 _ (90, _, [.int (qz v577)], qw σ564 α κ ρ, 0, 0)
                refine qr_istore_n _ 91 rfl (by decide) rfl rfl ?_
                refine qr_goto 10 rfl rfl ?_
                exact ih460 _ u574 v577 σ564 (by omega) (qm_gk (qm_gk g573 (by decide) (Or.inr rfl)) (by decide) (Or.inl (by decide))) (qm_gk (qm_ge _ _ _) (by decide) (Or.inr rfl)) (qm_ge _ _ _) hf575 hv577 hI565 hF567 ((hG566.1 86 37 (by decide)).trans ((congrFun (congrFun e547 86) 37).trans ((hk450).trans rfl))) (by have hw0 : σ564 86 39 = (σ564 86 39) := rfl; have hw1 : σ564 86 36 = (σ564 86 36) := rfl; have hw2 : σ564 86 37 = (σ 86 37) := (hG566.1 86 37 (by decide)).trans ((congrFun (congrFun e547 86) 37).trans ((hk450).trans rfl)); omega) (by have hw0 : σ564 86 39 = (σ564 86 39) := rfl; have hw1 : σ564 86 36 = (σ564 86 36) := rfl; have hw2 : σ564 86 37 = (σ 86 37) := (hG566.1 86 37 (by decide)).trans ((congrFun (congrFun e547 86) 37).trans ((hk450).trans rfl)); omega) (by have hw0 : σ564 86 39 = (σ564 86 39) := rfl; have hw1 : σ564 86 36 = (σ564 86 36) := rfl; have hw2 : σ564 86 37 = (σ 86 37) := (hG566.1 86 37 (by decide)).trans ((congrFun (congrFun e547 86) 37).trans ((hk450).trans rfl)); omega) (by have hw0 : σ564 86 39 = (σ564 86 39) := rfl; have hw1 : σ564 86 36 = (σ564 86 36) := rfl; have hw2 : σ564 86 37 = (σ 86 37) := (hG566.1 86 37 (by decide)).trans ((congrFun (congrFun e547 86) 37).trans ((hk450).trans rfl)); omega) (by have hw0 : σ564 86 39 = (σ564 86 39) := rfl; have hw1 : σ564 86 36 = (σ564 86 36) := rfl; have hw2 : σ564 86 37 = (σ 86 37) := (hG566.1 86 37 (by decide)).trans ((congrFun (congrFun e547 86) 37).trans ((hk450).trans rfl)); omega) (by have hw0 : σ564 86 39 = (σ564 86 39) := rfl; have hw1 : σ564 86 36 = (σ564 86 36) := rfl; have hw2 : σ564 86 37 = (σ 86 37) := (hG566.1 86 37 (by decide)).trans ((congrFun (congrFun e547 86) 37).trans ((hk450).trans rfl)); omega)
              refine qr_if_ne 70 66 rfl rfl rfl hv556 (fun h582 => ?_) (fun h582 => ?_)
              · skip
                refine qr_iload_n 71 rfl (qm_gk g444 (by decide) (Or.inr rfl)) rfl ?_
                refine qr_bipush 73 rfl (by decide) rfl ?_
                refine qr_icmp_ne 82 76 rfl rfl rfl hf452 (by decide) (fun h583 => ?_) (fun h => False.elim (by omega))
                refine qr_iload_n 83 rfl (qm_gk g442 (by decide) (Or.inl (by decide))) rfl ?_
                refine qr_iload_n 84 rfl (qm_ge _ _ _) rfl ?_
                refine qr_iremW 85 rfl (by omega) rfl ?_
                refine qy_can (fun v584 hv584 => ?_)
                exact hJ576 _ v584 (qm_gk g441 (by decide) (Or.inl (by decide))) hv584
              · skip
                refine qr_iconst 67 rfl rfl ?_
                refine qr_goto 85 rfl rfl ?_
                exact hJ576 _ 0 (qm_gk g441 (by decide) (Or.inl (by decide))) (by decide)
  exact hL459 ((((120 - σ9 86 36).toNat : Int) + 1 : Int)).toNat _ v4 v16 σ9 (by omega) rfl rfl rfl hv4 hv16 hI10 hF12 ((hG11.1 86 37 (by decide)).trans rfl) (by have hw0 : σ9 86 39 = (σ9 86 39) := rfl; have hw1 : σ9 86 36 = (σ9 86 36) := rfl; have hw2 : σ9 86 37 = (σ 86 37) := (hG11.1 86 37 (by decide)).trans rfl; omega) (by have hw0 : σ9 86 39 = (σ9 86 39) := rfl; have hw1 : σ9 86 36 = (σ9 86 36) := rfl; have hw2 : σ9 86 37 = (σ 86 37) := (hG11.1 86 37 (by decide)).trans rfl; omega) (by have hw0 : σ9 86 39 = (σ9 86 39) := rfl; have hw1 : σ9 86 36 = (σ9 86 36) := rfl; have hw2 : σ9 86 37 = (σ 86 37) := (hG11.1 86 37 (by decide)).trans rfl; omega) (by have hw0 : σ9 86 39 = (σ9 86 39) := rfl; have hw1 : σ9 86 36 = (σ9 86 36) := rfl; have hw2 : σ9 86 37 = (σ 86 37) := (hG11.1 86 37 (by decide)).trans rfl; omega) (by have hw0 : σ9 86 39 = (σ9 86 39) := rfl; have hw1 : σ9 86 36 = (σ9 86 36) := rfl; have hw2 : σ9 86 37 = (σ 86 37) := (hG11.1 86 37 (by decide)).trans rfl; omega) (by have hw0 : σ9 86 39 = (σ9 86 39) := rfl; have hw1 : σ9 86 36 = (σ9 86 36) := rfl; have hw2 : σ9 86 37 = (σ 86 37) := (hG11.1 86 37 (by decide)).trans rfl; omega)

set_option maxHeartbeats 4000000 in
set_option maxRecDepth 20000 in
/-- OneRoofModel.sums -/
theorem sf_217_86o0 {L : Nat} {xs : Nat → Int} {vb : Bool} {d : Nat} {σ α : Nat → Nat → Int} {κ : Nat → Option Nat} {ρ : Nat}  (hI : qI σ α κ ρ) (p0 : 0 ≤ σ 86 39) (p1 : σ 86 36 ≤ σ 86 37) : qm_T (qe L xs vb) (d + 40) 217 [.ref 86] (qw σ α κ ρ) (fun r w' => ∃ σ', w' = qw σ' α κ ρ ∧ qI σ' α κ ρ ∧ qFr [(86, 36), (86, 38), (86, 39)] [] σ α σ' α ∧ ∃ v : Int, r = some (.int (qz v)) ∧ ((-2147483648) ≤ v ∧ v ≤ 2147483647) ∧ σ 86 39 ≤ σ' 86 39 ∧ σ 86 36 ≤ σ' 86 36 ∧ σ' 86 36 ≤ σ' 86 37 ∧ σ' 86 37 = σ 86 37) := by
  refine qr_start (d := d + 39) qv_e217 (Nat.le_of_ble_eq_true rfl) ?_
  show qr_W (qe L xs vb) (d + 39) qx_e217 _ (0, [(0, .ref 86)], [], _, 0, 0)
  have hF0 := qFr_rf [(86, 36), (86, 38), (86, 39)] [] σ α
  have hz86_39 : 0 ≤ σ 86 39 ∧ σ 86 39 ≤ 6 := hI.1 86 39
  have hz86_36 : 0 ≤ σ 86 36 ∧ σ 86 36 ≤ 120 := hI.1 86 36
  have hz86_37 : 0 ≤ σ 86 37 ∧ σ 86 37 ≤ 120 := hI.1 86 37
  refine qr_aload_n 1 rfl rfl rfl ?_
  have hs1 : 0 ≤ σ 86 36 ∧ σ 86 36 ≤ 120 := hI.1 86 36
  have hs2 : 0 ≤ σ 86 37 ∧ σ 86 37 ≤ 120 := hI.1 86 37
  have hs3 : 0 ≤ σ 86 39 ∧ σ 86 39 ≤ 6 := hI.1 86 39
  refine qr_callN 4 rfl rfl rfl (sf_218_86o0 (d := d + 0) hI (by omega) (by omega)) ?_
  have hs6 : 0 ≤ σ 86 36 ∧ σ 86 36 ≤ 120 := hI.1 86 36
  have hs7 : 0 ≤ σ 86 37 ∧ σ 86 37 ≤ 120 := hI.1 86 37
  have hs8 : 0 ≤ σ 86 39 ∧ σ 86 39 ≤ 6 := hI.1 86 39
  rintro _ _ ⟨σ9, rfl, hI10, hG11, v4, rfl, hv4, hp5⟩
  have hF12 : qFr [(86, 36), (86, 38), (86, 39)] [] σ α σ9 α := qFr_t hF0 hG11 (by decide) (by decide)
  have hs13 : 0 ≤ σ9 86 36 ∧ σ9 86 36 ≤ 120 := hI10.1 86 36
  have hs14 : 0 ≤ σ9 86 37 ∧ σ9 86 37 ≤ 120 := hI10.1 86 37
  have hs15 : 0 ≤ σ9 86 39 ∧ σ9 86 39 ≤ 6 := hI10.1 86 39
  show qr_W (qe L xs vb) (d + 39) qx_e217 _ (4, _, [.int (qz v4)], qw σ9 α κ ρ, 0, 0)
  refine qr_istore_n _ 5 rfl (by decide) rfl rfl ?_
  have hL550 : ∀ (n : Nat) (ls : qm_L) (u538 : Int) (σ539 : Nat → Nat → Int), ((120 - σ539 86 36).toNat : Int) < (n : Int) → qm_get ls 0 = some (.ref 86) → qm_get ls 1 = some (.int (qz u538)) → ((-2147483648) ≤ u538 ∧ u538 ≤ 2147483647) → qI σ539 α κ ρ → qFr [(86, 36), (86, 38), (86, 39)] [] σ α σ539 α → σ539 86 37 = (σ 86 37) → 0 ≤ σ539 86 39 → σ 86 39 ≤ σ539 86 39 → σ 86 36 ≤ σ539 86 36 → σ539 86 36 ≤ σ539 86 37 → σ539 86 37 = σ 86 37 → qr_W (qe L xs vb) (d + 39) qx_e217 (fun r w' => ∃ σ', w' = qw σ' α κ ρ ∧ qI σ' α κ ρ ∧ qFr [(86, 36), (86, 38), (86, 39)] [] σ α σ' α ∧ ∃ v : Int, r = some (.int (qz v)) ∧ ((-2147483648) ≤ v ∧ v ≤ 2147483647) ∧ σ 86 39 ≤ σ' 86 39 ∧ σ 86 36 ≤ σ' 86 36 ∧ σ' 86 36 ≤ σ' 86 37 ∧ σ' 86 37 = σ 86 37) (5, ls, [], qw σ539 α κ ρ, 0, 0) := by
    intro n
    induction n with
    | zero => intro ls u538 σ539 hm g536 g537 hf544 hI541 hF542 hk543 hx545 hx546 hx547 hx548 hx549; exact False.elim (by omega)
    | succ n ih551 =>
      intro ls u538 σ539 hm g536 g537 hf544 hI541 hF542 hk543 hx545 hx546 hx547 hx548 hx549
      have hs552 : 0 ≤ σ539 86 39 ∧ σ539 86 39 ≤ 6 := hI541.1 86 39
      have hs553 : 0 ≤ σ539 86 36 ∧ σ539 86 36 ≤ 120 := hI541.1 86 36
      have hs554 : 0 ≤ σ539 86 37 ∧ σ539 86 37 ≤ 120 := hI541.1 86 37
      refine qr_aload_n 6 rfl g536 rfl ?_
      refine qr_get 9 rfl rfl rfl (by decide) rfl ?_
      have hs555 : (-1) ≤ σ539 86 38 ∧ σ539 86 38 ≤ 120 := hI541.1 86 38
      refine qr_if_ge 77 12 rfl rfl rfl (qrg hs555 (by decide) (by decide)) (fun h556 => ?_) (fun h556 => ?_)
      · skip
        refine qr_iload_n 78 rfl g537 rfl ?_
        refine qr_retI rfl rfl (by decide) (by decide) ?_
        have hw557 : σ539 86 36 = (σ539 86 36) := rfl
        have hw558 : σ539 86 37 = (σ 86 37) := (hk543).trans rfl
        have hw559 : σ539 86 39 = (σ539 86 39) := rfl
        exact ⟨_, rfl, hI541, hF542, u538, rfl, hf544, by omega⟩
      · skip
        refine qr_aload_n 13 rfl g536 rfl ?_
        refine qr_callN 16 rfl rfl rfl (sf_220_86t (d := d + 38) hI541 ) ?_
        have hs562 : 0 ≤ σ539 86 36 ∧ σ539 86 36 ≤ 120 := hI541.1 86 36
        have hs563 : 0 ≤ σ539 86 37 ∧ σ539 86 37 ≤ 120 := hI541.1 86 37
        have hs564 : σ539 86 37 = (σ 86 37) := (hk543).trans rfl
        rintro _ _ ⟨rfl, v560, rfl, hv560, hp561⟩
        show qr_W (qe L xs vb) (d + 39) qx_e217 _ (16, _, [.int (qz v560)], qw σ539 α κ ρ, 0, 0)
        refine qr_bipush 18 rfl (by decide) rfl ?_
        refine qr_icmp_eq 30 21 rfl rfl rfl hv560 (by decide) (fun h565 => ?_) (fun h565 => ?_)
        · skip
          refine qr_aload_n 31 rfl g536 rfl ?_
          refine qr_callN 34 rfl rfl rfl (sf_220_86t (d := d + 38) hI541 ) ?_
          have hs568 : 0 ≤ σ539 86 36 ∧ σ539 86 36 ≤ 120 := hI541.1 86 36
          have hs569 : 0 ≤ σ539 86 37 ∧ σ539 86 37 ≤ 120 := hI541.1 86 37
          have hs570 : σ539 86 37 = (σ 86 37) := (hk543).trans rfl
          rintro _ _ ⟨rfl, v566, rfl, hv566, hp567⟩
          show qr_W (qe L xs vb) (d + 39) qx_e217 _ (34, _, [.int (qz v566)], qw σ539 α κ ρ, 0, 0)
          refine qr_bipush 36 rfl (by decide) rfl ?_
          refine qr_icmp_ne 43 39 rfl rfl rfl hv566 (by decide) (fun h571 => ?_) (fun h571 => ?_)
          · skip
            refine qr_iconst 44 rfl rfl ?_
            refine qr_istore_n _ 45 rfl (by decide) rfl rfl ?_
            refine qr_aload_n 46 rfl (qm_gk g536 (by decide) (Or.inl (by decide))) rfl ?_
            refine qr_dup 47 rfl rfl rfl ?_
            refine qr_get 50 rfl rfl rfl (by decide) rfl ?_
            refine qr_iconst 51 rfl rfl ?_
            refine qr_iadd 52 rfl rfl ?_
            refine qr_put 55 rfl (by decide) rfl (Nat.le_of_ble_eq_true rfl) (Nat.le_of_ble_eq_true rfl) (Or.inl rfl) (qr_fitI rfl _) rfl ?_
            refine qy_wS (qw_s σ539 86 36 ((σ539 86 36) + 1)) rfl (fun σ572 e573 => ?_)
            have hI574 : qI σ572 α κ ρ := by rw [e573]; exact qI_s hI541 86 36 rfl (show 0 ≤ ((σ539 86 36) + 1) ∧ ((σ539 86 36) + 1) ≤ 120 by omega)
            have hF575 : qFr [(86, 36), (86, 38), (86, 39)] [] σ α σ572 α := by rw [e573]; exact qFr_s hF542 86 36 _ (by decide)
            refine qr_aload_n 56 rfl (qm_gk g536 (by decide) (Or.inl (by decide))) rfl ?_
            have hs576 : 0 ≤ σ572 86 36 ∧ σ572 86 36 ≤ 120 := hI574.1 86 36
            have hs577 : σ572 86 36 = ((σ539 86 36) + 1) := (congrFun (congrFun e573 86) 36).trans rfl
            have hs578 : 0 ≤ σ572 86 37 ∧ σ572 86 37 ≤ 120 := hI574.1 86 37
            have hs579 : σ572 86 37 = (σ 86 37) := (congrFun (congrFun e573 86) 37).trans ((hk543).trans rfl)
            have hs580 : 0 ≤ σ572 86 39 ∧ σ572 86 39 ≤ 6 := hI574.1 86 39
            have hs581 : σ572 86 39 = (σ539 86 39) := (congrFun (congrFun e573 86) 39).trans rfl
            refine qr_callN 59 rfl rfl rfl (sf_218_86o0 (d := d + 0) hI574 (by omega) (by omega)) ?_
            have hs584 : 0 ≤ σ572 86 36 ∧ σ572 86 36 ≤ 120 := hI574.1 86 36
            have hs585 : σ572 86 36 = ((σ539 86 36) + 1) := (congrFun (congrFun e573 86) 36).trans rfl
            have hs586 : 0 ≤ σ572 86 37 ∧ σ572 86 37 ≤ 120 := hI574.1 86 37
            have hs587 : σ572 86 37 = (σ 86 37) := (congrFun (congrFun e573 86) 37).trans ((hk543).trans rfl)
            have hs588 : 0 ≤ σ572 86 39 ∧ σ572 86 39 ≤ 6 := hI574.1 86 39
            have hs589 : σ572 86 39 = (σ539 86 39) := (congrFun (congrFun e573 86) 39).trans rfl
            rintro _ _ ⟨σ590, rfl, hI591, hG592, v582, rfl, hv582, hp583⟩
            have hF593 : qFr [(86, 36), (86, 38), (86, 39)] [] σ α σ590 α := qFr_t hF575 hG592 (by decide) (by decide)
            have hs594 : 0 ≤ σ590 86 36 ∧ σ590 86 36 ≤ 120 := hI591.1 86 36
            have hs595 : 0 ≤ σ590 86 37 ∧ σ590 86 37 ≤ 120 := hI591.1 86 37
            have hs596 : 0 ≤ σ590 86 39 ∧ σ590 86 39 ≤ 6 := hI591.1 86 39
            show qr_W (qe L xs vb) (d + 39) qx_e217 _ (59, _, [.int (qz v582)], qw σ590 α κ ρ, 0, 0)
            refine qr_istore_n _ 60 rfl (by decide) rfl rfl ?_
            refine qr_iload_n 61 rfl (qm_gk (qm_ge _ _ _) (by decide) (Or.inr rfl)) rfl ?_
            refine qr_if_eq 70 64 rfl rfl rfl (by decide) (fun h597 => ?_) (fun h => False.elim (by omega))
            refine qr_iload_n 71 rfl (qm_gk (qm_gk g537 (by decide) (Or.inr rfl)) (by decide) (Or.inl (by decide))) rfl ?_
            refine qr_iload_n 72 rfl (qm_ge _ _ _) rfl ?_
            refine qr_isub 73 rfl rfl ?_
            refine qy_can (fun v598 hv598 => ?_)
            refine qr_istore_n _ 74 rfl (by decide) rfl rfl ?_
            refine qr_goto 5 rfl rfl ?_
            exact ih551 _ v598 σ590 (by omega) (qm_gk (qm_gk (qm_gk g536 (by decide) (Or.inl (by decide))) (by decide) (Or.inl (by decide))) (by decide) (Or.inr rfl)) (qm_ge _ _ _) hv598 hI591 hF593 ((hG592.1 86 37 (by decide)).trans ((congrFun (congrFun e573 86) 37).trans ((hk543).trans rfl))) (by have hw0 : σ590 86 39 = (σ590 86 39) := rfl; have hw1 : σ590 86 36 = (σ590 86 36) := rfl; have hw2 : σ590 86 37 = (σ 86 37) := (hG592.1 86 37 (by decide)).trans ((congrFun (congrFun e573 86) 37).trans ((hk543).trans rfl)); omega) (by have hw0 : σ590 86 39 = (σ590 86 39) := rfl; have hw1 : σ590 86 36 = (σ590 86 36) := rfl; have hw2 : σ590 86 37 = (σ 86 37) := (hG592.1 86 37 (by decide)).trans ((congrFun (congrFun e573 86) 37).trans ((hk543).trans rfl)); omega) (by have hw0 : σ590 86 39 = (σ590 86 39) := rfl; have hw1 : σ590 86 36 = (σ590 86 36) := rfl; have hw2 : σ590 86 37 = (σ 86 37) := (hG592.1 86 37 (by decide)).trans ((congrFun (congrFun e573 86) 37).trans ((hk543).trans rfl)); omega) (by have hw0 : σ590 86 39 = (σ590 86 39) := rfl; have hw1 : σ590 86 36 = (σ590 86 36) := rfl; have hw2 : σ590 86 37 = (σ 86 37) := (hG592.1 86 37 (by decide)).trans ((congrFun (congrFun e573 86) 37).trans ((hk543).trans rfl)); omega) (by have hw0 : σ590 86 39 = (σ590 86 39) := rfl; have hw1 : σ590 86 36 = (σ590 86 36) := rfl; have hw2 : σ590 86 37 = (σ 86 37) := (hG592.1 86 37 (by decide)).trans ((congrFun (congrFun e573 86) 37).trans ((hk543).trans rfl)); omega)
          · skip
            refine qr_iconst 40 rfl rfl ?_
            refine qr_goto 44 rfl rfl ?_
            refine qr_istore_n _ 45 rfl (by decide) rfl rfl ?_
            refine qr_aload_n 46 rfl (qm_gk g536 (by decide) (Or.inl (by decide))) rfl ?_
            refine qr_dup 47 rfl rfl rfl ?_
            refine qr_get 50 rfl rfl rfl (by decide) rfl ?_
            refine qr_iconst 51 rfl rfl ?_
            refine qr_iadd 52 rfl rfl ?_
            refine qr_put 55 rfl (by decide) rfl (Nat.le_of_ble_eq_true rfl) (Nat.le_of_ble_eq_true rfl) (Or.inl rfl) (qr_fitI rfl _) rfl ?_
            refine qy_wS (qw_s σ539 86 36 ((σ539 86 36) + 1)) rfl (fun σ599 e600 => ?_)
            have hI601 : qI σ599 α κ ρ := by rw [e600]; exact qI_s hI541 86 36 rfl (show 0 ≤ ((σ539 86 36) + 1) ∧ ((σ539 86 36) + 1) ≤ 120 by omega)
            have hF602 : qFr [(86, 36), (86, 38), (86, 39)] [] σ α σ599 α := by rw [e600]; exact qFr_s hF542 86 36 _ (by decide)
            refine qr_aload_n 56 rfl (qm_gk g536 (by decide) (Or.inl (by decide))) rfl ?_
            have hs603 : 0 ≤ σ599 86 36 ∧ σ599 86 36 ≤ 120 := hI601.1 86 36
            have hs604 : σ599 86 36 = ((σ539 86 36) + 1) := (congrFun (congrFun e600 86) 36).trans rfl
            have hs605 : 0 ≤ σ599 86 37 ∧ σ599 86 37 ≤ 120 := hI601.1 86 37
            have hs606 : σ599 86 37 = (σ 86 37) := (congrFun (congrFun e600 86) 37).trans ((hk543).trans rfl)
            have hs607 : 0 ≤ σ599 86 39 ∧ σ599 86 39 ≤ 6 := hI601.1 86 39
            have hs608 : σ599 86 39 = (σ539 86 39) := (congrFun (congrFun e600 86) 39).trans rfl
            refine qr_callN 59 rfl rfl rfl (sf_218_86o0 (d := d + 0) hI601 (by omega) (by omega)) ?_
            have hs611 : 0 ≤ σ599 86 36 ∧ σ599 86 36 ≤ 120 := hI601.1 86 36
            have hs612 : σ599 86 36 = ((σ539 86 36) + 1) := (congrFun (congrFun e600 86) 36).trans rfl
            have hs613 : 0 ≤ σ599 86 37 ∧ σ599 86 37 ≤ 120 := hI601.1 86 37
            have hs614 : σ599 86 37 = (σ 86 37) := (congrFun (congrFun e600 86) 37).trans ((hk543).trans rfl)
            have hs615 : 0 ≤ σ599 86 39 ∧ σ599 86 39 ≤ 6 := hI601.1 86 39
            have hs616 : σ599 86 39 = (σ539 86 39) := (congrFun (congrFun e600 86) 39).trans rfl
            rintro _ _ ⟨σ617, rfl, hI618, hG619, v609, rfl, hv609, hp610⟩
            have hF620 : qFr [(86, 36), (86, 38), (86, 39)] [] σ α σ617 α := qFr_t hF602 hG619 (by decide) (by decide)
            have hs621 : 0 ≤ σ617 86 36 ∧ σ617 86 36 ≤ 120 := hI618.1 86 36
            have hs622 : 0 ≤ σ617 86 37 ∧ σ617 86 37 ≤ 120 := hI618.1 86 37
            have hs623 : 0 ≤ σ617 86 39 ∧ σ617 86 39 ≤ 6 := hI618.1 86 39
            show qr_W (qe L xs vb) (d + 39) qx_e217 _ (59, _, [.int (qz v609)], qw σ617 α κ ρ, 0, 0)
            refine qr_istore_n _ 60 rfl (by decide) rfl rfl ?_
            refine qr_iload_n 61 rfl (qm_gk (qm_ge _ _ _) (by decide) (Or.inr rfl)) rfl ?_
            refine qr_if_eq 70 64 rfl rfl rfl (by decide) (fun h => False.elim (by omega)) (fun h624 => ?_)
            refine qr_iload_n 65 rfl (qm_gk (qm_gk g537 (by decide) (Or.inr rfl)) (by decide) (Or.inl (by decide))) rfl ?_
            refine qr_iload_n 66 rfl (qm_ge _ _ _) rfl ?_
            refine qr_iadd 67 rfl rfl ?_
            refine qy_can (fun v625 hv625 => ?_)
            refine qr_goto 73 rfl rfl ?_
            refine qr_istore_n _ 74 rfl (by decide) rfl rfl ?_
            refine qr_goto 5 rfl rfl ?_
            exact ih551 _ v625 σ617 (by omega) (qm_gk (qm_gk (qm_gk g536 (by decide) (Or.inl (by decide))) (by decide) (Or.inl (by decide))) (by decide) (Or.inr rfl)) (qm_ge _ _ _) hv625 hI618 hF620 ((hG619.1 86 37 (by decide)).trans ((congrFun (congrFun e600 86) 37).trans ((hk543).trans rfl))) (by have hw0 : σ617 86 39 = (σ617 86 39) := rfl; have hw1 : σ617 86 36 = (σ617 86 36) := rfl; have hw2 : σ617 86 37 = (σ 86 37) := (hG619.1 86 37 (by decide)).trans ((congrFun (congrFun e600 86) 37).trans ((hk543).trans rfl)); omega) (by have hw0 : σ617 86 39 = (σ617 86 39) := rfl; have hw1 : σ617 86 36 = (σ617 86 36) := rfl; have hw2 : σ617 86 37 = (σ 86 37) := (hG619.1 86 37 (by decide)).trans ((congrFun (congrFun e600 86) 37).trans ((hk543).trans rfl)); omega) (by have hw0 : σ617 86 39 = (σ617 86 39) := rfl; have hw1 : σ617 86 36 = (σ617 86 36) := rfl; have hw2 : σ617 86 37 = (σ 86 37) := (hG619.1 86 37 (by decide)).trans ((congrFun (congrFun e600 86) 37).trans ((hk543).trans rfl)); omega) (by have hw0 : σ617 86 39 = (σ617 86 39) := rfl; have hw1 : σ617 86 36 = (σ617 86 36) := rfl; have hw2 : σ617 86 37 = (σ 86 37) := (hG619.1 86 37 (by decide)).trans ((congrFun (congrFun e600 86) 37).trans ((hk543).trans rfl)); omega) (by have hw0 : σ617 86 39 = (σ617 86 39) := rfl; have hw1 : σ617 86 36 = (σ617 86 36) := rfl; have hw2 : σ617 86 37 = (σ 86 37) := (hG619.1 86 37 (by decide)).trans ((congrFun (congrFun e600 86) 37).trans ((hk543).trans rfl)); omega)
        · skip
          refine qr_aload_n 22 rfl g536 rfl ?_
          refine qr_callN 25 rfl rfl rfl (sf_220_86t (d := d + 38) hI541 ) ?_
          have hs628 : 0 ≤ σ539 86 36 ∧ σ539 86 36 ≤ 120 := hI541.1 86 36
          have hs629 : 0 ≤ σ539 86 37 ∧ σ539 86 37 ≤ 120 := hI541.1 86 37
          have hs630 : σ539 86 37 = (σ 86 37) := (hk543).trans rfl
          rintro _ _ ⟨rfl, v626, rfl, hv626, hp627⟩
          show qr_W (qe L xs vb) (d + 39) qx_e217 _ (25, _, [.int (qz v626)], qw σ539 α κ ρ, 0, 0)
          refine qr_bipush 27 rfl (by decide) rfl ?_
          refine qr_icmp_ne 77 30 rfl rfl rfl hv626 (by decide) (fun h631 => ?_) (fun h631 => ?_)
          · skip
            refine qr_iload_n 78 rfl g537 rfl ?_
            refine qr_retI rfl rfl (by decide) (by decide) ?_
            have hw632 : σ539 86 36 = (σ539 86 36) := rfl
            have hw633 : σ539 86 37 = (σ 86 37) := (hk543).trans rfl
            have hw634 : σ539 86 39 = (σ539 86 39) := rfl
            exact ⟨_, rfl, hI541, hF542, u538, rfl, hf544, by omega⟩
          · skip
            refine qr_aload_n 31 rfl g536 rfl ?_
            refine qr_callN 34 rfl rfl rfl (sf_220_86t (d := d + 38) hI541 ) ?_
            have hs637 : 0 ≤ σ539 86 36 ∧ σ539 86 36 ≤ 120 := hI541.1 86 36
            have hs638 : 0 ≤ σ539 86 37 ∧ σ539 86 37 ≤ 120 := hI541.1 86 37
            have hs639 : σ539 86 37 = (σ 86 37) := (hk543).trans rfl
            rintro _ _ ⟨rfl, v635, rfl, hv635, hp636⟩
            show qr_W (qe L xs vb) (d + 39) qx_e217 _ (34, _, [.int (qz v635)], qw σ539 α κ ρ, 0, 0)
            refine qr_bipush 36 rfl (by decide) rfl ?_
            refine qr_icmp_ne 43 39 rfl rfl rfl hv635 (by decide) (fun h640 => ?_) (fun h640 => ?_)
            · skip
              refine qr_iconst 44 rfl rfl ?_
              refine qr_istore_n _ 45 rfl (by decide) rfl rfl ?_
              refine qr_aload_n 46 rfl (qm_gk g536 (by decide) (Or.inl (by decide))) rfl ?_
              refine qr_dup 47 rfl rfl rfl ?_
              refine qr_get 50 rfl rfl rfl (by decide) rfl ?_
              refine qr_iconst 51 rfl rfl ?_
              refine qr_iadd 52 rfl rfl ?_
              refine qr_put 55 rfl (by decide) rfl (Nat.le_of_ble_eq_true rfl) (Nat.le_of_ble_eq_true rfl) (Or.inl rfl) (qr_fitI rfl _) rfl ?_
              refine qy_wS (qw_s σ539 86 36 ((σ539 86 36) + 1)) rfl (fun σ641 e642 => ?_)
              have hI643 : qI σ641 α κ ρ := by rw [e642]; exact qI_s hI541 86 36 rfl (show 0 ≤ ((σ539 86 36) + 1) ∧ ((σ539 86 36) + 1) ≤ 120 by omega)
              have hF644 : qFr [(86, 36), (86, 38), (86, 39)] [] σ α σ641 α := by rw [e642]; exact qFr_s hF542 86 36 _ (by decide)
              refine qr_aload_n 56 rfl (qm_gk g536 (by decide) (Or.inl (by decide))) rfl ?_
              have hs645 : 0 ≤ σ641 86 36 ∧ σ641 86 36 ≤ 120 := hI643.1 86 36
              have hs646 : σ641 86 36 = ((σ539 86 36) + 1) := (congrFun (congrFun e642 86) 36).trans rfl
              have hs647 : 0 ≤ σ641 86 37 ∧ σ641 86 37 ≤ 120 := hI643.1 86 37
              have hs648 : σ641 86 37 = (σ 86 37) := (congrFun (congrFun e642 86) 37).trans ((hk543).trans rfl)
              have hs649 : 0 ≤ σ641 86 39 ∧ σ641 86 39 ≤ 6 := hI643.1 86 39
              have hs650 : σ641 86 39 = (σ539 86 39) := (congrFun (congrFun e642 86) 39).trans rfl
              refine qr_callN 59 rfl rfl rfl (sf_218_86o0 (d := d + 0) hI643 (by omega) (by omega)) ?_
              have hs653 : 0 ≤ σ641 86 36 ∧ σ641 86 36 ≤ 120 := hI643.1 86 36
              have hs654 : σ641 86 36 = ((σ539 86 36) + 1) := (congrFun (congrFun e642 86) 36).trans rfl
              have hs655 : 0 ≤ σ641 86 37 ∧ σ641 86 37 ≤ 120 := hI643.1 86 37
              have hs656 : σ641 86 37 = (σ 86 37) := (congrFun (congrFun e642 86) 37).trans ((hk543).trans rfl)
              have hs657 : 0 ≤ σ641 86 39 ∧ σ641 86 39 ≤ 6 := hI643.1 86 39
              have hs658 : σ641 86 39 = (σ539 86 39) := (congrFun (congrFun e642 86) 39).trans rfl
              rintro _ _ ⟨σ659, rfl, hI660, hG661, v651, rfl, hv651, hp652⟩
              have hF662 : qFr [(86, 36), (86, 38), (86, 39)] [] σ α σ659 α := qFr_t hF644 hG661 (by decide) (by decide)
              have hs663 : 0 ≤ σ659 86 36 ∧ σ659 86 36 ≤ 120 := hI660.1 86 36
              have hs664 : 0 ≤ σ659 86 37 ∧ σ659 86 37 ≤ 120 := hI660.1 86 37
              have hs665 : 0 ≤ σ659 86 39 ∧ σ659 86 39 ≤ 6 := hI660.1 86 39
              show qr_W (qe L xs vb) (d + 39) qx_e217 _ (59, _, [.int (qz v651)], qw σ659 α κ ρ, 0, 0)
              refine qr_istore_n _ 60 rfl (by decide) rfl rfl ?_
              refine qr_iload_n 61 rfl (qm_gk (qm_ge _ _ _) (by decide) (Or.inr rfl)) rfl ?_
              refine qr_if_eq 70 64 rfl rfl rfl (by decide) (fun h666 => ?_) (fun h => False.elim (by omega))
              refine qr_iload_n 71 rfl (qm_gk (qm_gk g537 (by decide) (Or.inr rfl)) (by decide) (Or.inl (by decide))) rfl ?_
              refine qr_iload_n 72 rfl (qm_ge _ _ _) rfl ?_
              refine qr_isub 73 rfl rfl ?_
              refine qy_can (fun v667 hv667 => ?_)
              refine qr_istore_n _ 74 rfl (by decide) rfl rfl ?_
              refine qr_goto 5 rfl rfl ?_
              exact ih551 _ v667 σ659 (by omega) (qm_gk (qm_gk (qm_gk g536 (by decide) (Or.inl (by decide))) (by decide) (Or.inl (by decide))) (by decide) (Or.inr rfl)) (qm_ge _ _ _) hv667 hI660 hF662 ((hG661.1 86 37 (by decide)).trans ((congrFun (congrFun e642 86) 37).trans ((hk543).trans rfl))) (by have hw0 : σ659 86 39 = (σ659 86 39) := rfl; have hw1 : σ659 86 36 = (σ659 86 36) := rfl; have hw2 : σ659 86 37 = (σ 86 37) := (hG661.1 86 37 (by decide)).trans ((congrFun (congrFun e642 86) 37).trans ((hk543).trans rfl)); omega) (by have hw0 : σ659 86 39 = (σ659 86 39) := rfl; have hw1 : σ659 86 36 = (σ659 86 36) := rfl; have hw2 : σ659 86 37 = (σ 86 37) := (hG661.1 86 37 (by decide)).trans ((congrFun (congrFun e642 86) 37).trans ((hk543).trans rfl)); omega) (by have hw0 : σ659 86 39 = (σ659 86 39) := rfl; have hw1 : σ659 86 36 = (σ659 86 36) := rfl; have hw2 : σ659 86 37 = (σ 86 37) := (hG661.1 86 37 (by decide)).trans ((congrFun (congrFun e642 86) 37).trans ((hk543).trans rfl)); omega) (by have hw0 : σ659 86 39 = (σ659 86 39) := rfl; have hw1 : σ659 86 36 = (σ659 86 36) := rfl; have hw2 : σ659 86 37 = (σ 86 37) := (hG661.1 86 37 (by decide)).trans ((congrFun (congrFun e642 86) 37).trans ((hk543).trans rfl)); omega) (by have hw0 : σ659 86 39 = (σ659 86 39) := rfl; have hw1 : σ659 86 36 = (σ659 86 36) := rfl; have hw2 : σ659 86 37 = (σ 86 37) := (hG661.1 86 37 (by decide)).trans ((congrFun (congrFun e642 86) 37).trans ((hk543).trans rfl)); omega)
            · skip
              refine qr_iconst 40 rfl rfl ?_
              refine qr_goto 44 rfl rfl ?_
              refine qr_istore_n _ 45 rfl (by decide) rfl rfl ?_
              refine qr_aload_n 46 rfl (qm_gk g536 (by decide) (Or.inl (by decide))) rfl ?_
              refine qr_dup 47 rfl rfl rfl ?_
              refine qr_get 50 rfl rfl rfl (by decide) rfl ?_
              refine qr_iconst 51 rfl rfl ?_
              refine qr_iadd 52 rfl rfl ?_
              refine qr_put 55 rfl (by decide) rfl (Nat.le_of_ble_eq_true rfl) (Nat.le_of_ble_eq_true rfl) (Or.inl rfl) (qr_fitI rfl _) rfl ?_
              refine qy_wS (qw_s σ539 86 36 ((σ539 86 36) + 1)) rfl (fun σ668 e669 => ?_)
              have hI670 : qI σ668 α κ ρ := by rw [e669]; exact qI_s hI541 86 36 rfl (show 0 ≤ ((σ539 86 36) + 1) ∧ ((σ539 86 36) + 1) ≤ 120 by omega)
              have hF671 : qFr [(86, 36), (86, 38), (86, 39)] [] σ α σ668 α := by rw [e669]; exact qFr_s hF542 86 36 _ (by decide)
              refine qr_aload_n 56 rfl (qm_gk g536 (by decide) (Or.inl (by decide))) rfl ?_
              have hs672 : 0 ≤ σ668 86 36 ∧ σ668 86 36 ≤ 120 := hI670.1 86 36
              have hs673 : σ668 86 36 = ((σ539 86 36) + 1) := (congrFun (congrFun e669 86) 36).trans rfl
              have hs674 : 0 ≤ σ668 86 37 ∧ σ668 86 37 ≤ 120 := hI670.1 86 37
              have hs675 : σ668 86 37 = (σ 86 37) := (congrFun (congrFun e669 86) 37).trans ((hk543).trans rfl)
              have hs676 : 0 ≤ σ668 86 39 ∧ σ668 86 39 ≤ 6 := hI670.1 86 39
              have hs677 : σ668 86 39 = (σ539 86 39) := (congrFun (congrFun e669 86) 39).trans rfl
              refine qr_callN 59 rfl rfl rfl (sf_218_86o0 (d := d + 0) hI670 (by omega) (by omega)) ?_
              have hs680 : 0 ≤ σ668 86 36 ∧ σ668 86 36 ≤ 120 := hI670.1 86 36
              have hs681 : σ668 86 36 = ((σ539 86 36) + 1) := (congrFun (congrFun e669 86) 36).trans rfl
              have hs682 : 0 ≤ σ668 86 37 ∧ σ668 86 37 ≤ 120 := hI670.1 86 37
              have hs683 : σ668 86 37 = (σ 86 37) := (congrFun (congrFun e669 86) 37).trans ((hk543).trans rfl)
              have hs684 : 0 ≤ σ668 86 39 ∧ σ668 86 39 ≤ 6 := hI670.1 86 39
              have hs685 : σ668 86 39 = (σ539 86 39) := (congrFun (congrFun e669 86) 39).trans rfl
              rintro _ _ ⟨σ686, rfl, hI687, hG688, v678, rfl, hv678, hp679⟩
              have hF689 : qFr [(86, 36), (86, 38), (86, 39)] [] σ α σ686 α := qFr_t hF671 hG688 (by decide) (by decide)
              have hs690 : 0 ≤ σ686 86 36 ∧ σ686 86 36 ≤ 120 := hI687.1 86 36
              have hs691 : 0 ≤ σ686 86 37 ∧ σ686 86 37 ≤ 120 := hI687.1 86 37
              have hs692 : 0 ≤ σ686 86 39 ∧ σ686 86 39 ≤ 6 := hI687.1 86 39
              show qr_W (qe L xs vb) (d + 39) qx_e217 _ (59, _, [.int (qz v678)], qw σ686 α κ ρ, 0, 0)
              refine qr_istore_n _ 60 rfl (by decide) rfl rfl ?_
              refine qr_iload_n 61 rfl (qm_gk (qm_ge _ _ _) (by decide) (Or.inr rfl)) rfl ?_
              refine qr_if_eq 70 64 rfl rfl rfl (by decide) (fun h => False.elim (by omega)) (fun h693 => ?_)
              refine qr_iload_n 65 rfl (qm_gk (qm_gk g537 (by decide) (Or.inr rfl)) (by decide) (Or.inl (by decide))) rfl ?_
              refine qr_iload_n 66 rfl (qm_ge _ _ _) rfl ?_
              refine qr_iadd 67 rfl rfl ?_
              refine qy_can (fun v694 hv694 => ?_)
              refine qr_goto 73 rfl rfl ?_
              refine qr_istore_n _ 74 rfl (by decide) rfl rfl ?_
              refine qr_goto 5 rfl rfl ?_
              exact ih551 _ v694 σ686 (by omega) (qm_gk (qm_gk (qm_gk g536 (by decide) (Or.inl (by decide))) (by decide) (Or.inl (by decide))) (by decide) (Or.inr rfl)) (qm_ge _ _ _) hv694 hI687 hF689 ((hG688.1 86 37 (by decide)).trans ((congrFun (congrFun e669 86) 37).trans ((hk543).trans rfl))) (by have hw0 : σ686 86 39 = (σ686 86 39) := rfl; have hw1 : σ686 86 36 = (σ686 86 36) := rfl; have hw2 : σ686 86 37 = (σ 86 37) := (hG688.1 86 37 (by decide)).trans ((congrFun (congrFun e669 86) 37).trans ((hk543).trans rfl)); omega) (by have hw0 : σ686 86 39 = (σ686 86 39) := rfl; have hw1 : σ686 86 36 = (σ686 86 36) := rfl; have hw2 : σ686 86 37 = (σ 86 37) := (hG688.1 86 37 (by decide)).trans ((congrFun (congrFun e669 86) 37).trans ((hk543).trans rfl)); omega) (by have hw0 : σ686 86 39 = (σ686 86 39) := rfl; have hw1 : σ686 86 36 = (σ686 86 36) := rfl; have hw2 : σ686 86 37 = (σ 86 37) := (hG688.1 86 37 (by decide)).trans ((congrFun (congrFun e669 86) 37).trans ((hk543).trans rfl)); omega) (by have hw0 : σ686 86 39 = (σ686 86 39) := rfl; have hw1 : σ686 86 36 = (σ686 86 36) := rfl; have hw2 : σ686 86 37 = (σ 86 37) := (hG688.1 86 37 (by decide)).trans ((congrFun (congrFun e669 86) 37).trans ((hk543).trans rfl)); omega) (by have hw0 : σ686 86 39 = (σ686 86 39) := rfl; have hw1 : σ686 86 36 = (σ686 86 36) := rfl; have hw2 : σ686 86 37 = (σ 86 37) := (hG688.1 86 37 (by decide)).trans ((congrFun (congrFun e669 86) 37).trans ((hk543).trans rfl)); omega)
  exact hL550 ((((120 - σ9 86 36).toNat : Int) + 1 : Int)).toNat _ v4 σ9 (by omega) rfl rfl hv4 hI10 hF12 ((hG11.1 86 37 (by decide)).trans rfl) (by have hw0 : σ9 86 39 = (σ9 86 39) := rfl; have hw1 : σ9 86 36 = (σ9 86 36) := rfl; have hw2 : σ9 86 37 = (σ 86 37) := (hG11.1 86 37 (by decide)).trans rfl; omega) (by have hw0 : σ9 86 39 = (σ9 86 39) := rfl; have hw1 : σ9 86 36 = (σ9 86 36) := rfl; have hw2 : σ9 86 37 = (σ 86 37) := (hG11.1 86 37 (by decide)).trans rfl; omega) (by have hw0 : σ9 86 39 = (σ9 86 39) := rfl; have hw1 : σ9 86 36 = (σ9 86 36) := rfl; have hw2 : σ9 86 37 = (σ 86 37) := (hG11.1 86 37 (by decide)).trans rfl; omega) (by have hw0 : σ9 86 39 = (σ9 86 39) := rfl; have hw1 : σ9 86 36 = (σ9 86 36) := rfl; have hw2 : σ9 86 37 = (σ 86 37) := (hG11.1 86 37 (by decide)).trans rfl; omega) (by have hw0 : σ9 86 39 = (σ9 86 39) := rfl; have hw1 : σ9 86 36 = (σ9 86 36) := rfl; have hw2 : σ9 86 37 = (σ 86 37) := (hG11.1 86 37 (by decide)).trans rfl; omega)

set_option maxHeartbeats 4000000 in
set_option maxRecDepth 20000 in
/-- OneRoofModel.compared -/
theorem sf_216_86o0 {L : Nat} {xs : Nat → Int} {vb : Bool} {d : Nat} {σ α : Nat → Nat → Int} {κ : Nat → Option Nat} {ρ : Nat}  (hI : qI σ α κ ρ) (p0 : 0 ≤ σ 86 39) (p1 : σ 86 36 ≤ σ 86 37) : qm_T (qe L xs vb) (d + 41) 216 [.ref 86] (qw σ α κ ρ) (fun r w' => ∃ σ', w' = qw σ' α κ ρ ∧ qI σ' α κ ρ ∧ qFr [(86, 36), (86, 38), (86, 39)] [] σ α σ' α ∧ ∃ v : Int, r = some (.int (qz v)) ∧ ((-2147483648) ≤ v ∧ v ≤ 2147483647) ∧ σ 86 39 ≤ σ' 86 39 ∧ σ 86 36 ≤ σ' 86 36 ∧ σ' 86 36 ≤ σ' 86 37 ∧ σ' 86 37 = σ 86 37) := by
  refine qr_start (d := d + 40) qv_e216 (Nat.le_of_ble_eq_true rfl) ?_
  show qr_W (qe L xs vb) (d + 40) qx_e216 _ (0, [(0, .ref 86)], [], _, 0, 0)
  have hF0 := qFr_rf [(86, 36), (86, 38), (86, 39)] [] σ α
  have hz86_39 : 0 ≤ σ 86 39 ∧ σ 86 39 ≤ 6 := hI.1 86 39
  have hz86_36 : 0 ≤ σ 86 36 ∧ σ 86 36 ≤ 120 := hI.1 86 36
  have hz86_37 : 0 ≤ σ 86 37 ∧ σ 86 37 ≤ 120 := hI.1 86 37
  refine qr_aload_n 1 rfl rfl rfl ?_
  have hs1 : 0 ≤ σ 86 36 ∧ σ 86 36 ≤ 120 := hI.1 86 36
  have hs2 : 0 ≤ σ 86 37 ∧ σ 86 37 ≤ 120 := hI.1 86 37
  have hs3 : 0 ≤ σ 86 39 ∧ σ 86 39 ≤ 6 := hI.1 86 39
  refine qr_callN 4 rfl rfl rfl (sf_217_86o0 (d := d + 0) hI (by omega) (by omega)) ?_
  have hs6 : 0 ≤ σ 86 36 ∧ σ 86 36 ≤ 120 := hI.1 86 36
  have hs7 : 0 ≤ σ 86 37 ∧ σ 86 37 ≤ 120 := hI.1 86 37
  have hs8 : 0 ≤ σ 86 39 ∧ σ 86 39 ≤ 6 := hI.1 86 39
  rintro _ _ ⟨σ9, rfl, hI10, hG11, v4, rfl, hv4, hp5⟩
  have hF12 : qFr [(86, 36), (86, 38), (86, 39)] [] σ α σ9 α := qFr_t hF0 hG11 (by decide) (by decide)
  have hs13 : 0 ≤ σ9 86 36 ∧ σ9 86 36 ≤ 120 := hI10.1 86 36
  have hs14 : 0 ≤ σ9 86 37 ∧ σ9 86 37 ≤ 120 := hI10.1 86 37
  have hs15 : 0 ≤ σ9 86 39 ∧ σ9 86 39 ≤ 6 := hI10.1 86 39
  show qr_W (qe L xs vb) (d + 40) qx_e216 _ (4, _, [.int (qz v4)], qw σ9 α κ ρ, 0, 0)
  refine qr_istore_n _ 5 rfl (by decide) rfl rfl ?_
  refine qr_aload_n 6 rfl rfl rfl ?_
  refine qr_callN 9 rfl rfl rfl (sf_220_86t (d := d + 39) hI10 ) ?_
  have hs18 : 0 ≤ σ9 86 36 ∧ σ9 86 36 ≤ 120 := hI10.1 86 36
  have hs19 : 0 ≤ σ9 86 37 ∧ σ9 86 37 ≤ 120 := hI10.1 86 37
  have hs20 : σ9 86 37 = (σ 86 37) := (hG11.1 86 37 (by decide)).trans rfl
  rintro _ _ ⟨rfl, v16, rfl, hv16, hp17⟩
  show qr_W (qe L xs vb) (d + 40) qx_e216 _ (9, _, [.int (qz v16)], qw σ9 α κ ρ, 0, 0)
  refine qr_istore_n _ 10 rfl (by decide) rfl rfl ?_
  refine qr_aload_n 11 rfl rfl rfl ?_
  refine qr_get 14 rfl rfl rfl (by decide) rfl ?_
  have hs21 : (-1) ≤ σ9 86 38 ∧ σ9 86 38 ≤ 120 := hI10.1 86 38
  refine qr_if_ge 35 17 rfl rfl rfl (qrg hs21 (by decide) (by decide)) (fun h22 => ?_) (fun h22 => ?_)
  · skip
    refine qr_iload_n 36 rfl rfl rfl ?_
    refine qr_retI rfl rfl (by decide) (by decide) ?_
    have hw23 : σ9 86 36 = (σ9 86 36) := rfl
    have hw24 : σ9 86 37 = (σ 86 37) := (hG11.1 86 37 (by decide)).trans rfl
    have hw25 : σ9 86 39 = (σ9 86 39) := rfl
    exact ⟨_, rfl, hI10, hF12, v4, rfl, hv4, by omega⟩
  · skip
    refine qr_iload_n 18 rfl rfl rfl ?_
    refine qr_bipush 20 rfl (by decide) rfl ?_
    refine qr_icmp_eq 37 23 rfl rfl rfl hv16 (by decide) (fun h26 => ?_) (fun h26 => ?_)
    · skip
      refine qr_aload_n 38 rfl rfl rfl ?_
      refine qr_dup 39 rfl rfl rfl ?_
      refine qr_get 42 rfl rfl rfl (by decide) rfl ?_
      refine qr_iconst 43 rfl rfl ?_
      refine qr_iadd 44 rfl rfl ?_
      refine qr_put 47 rfl (by decide) rfl (Nat.le_of_ble_eq_true rfl) (Nat.le_of_ble_eq_true rfl) (Or.inl rfl) (qr_fitI rfl _) rfl ?_
      refine qy_wS (qw_s σ9 86 36 ((σ9 86 36) + 1)) rfl (fun σ27 e28 => ?_)
      have hI29 : qI σ27 α κ ρ := by rw [e28]; exact qI_s hI10 86 36 rfl (show 0 ≤ ((σ9 86 36) + 1) ∧ ((σ9 86 36) + 1) ≤ 120 by omega)
      have hF30 : qFr [(86, 36), (86, 38), (86, 39)] [] σ α σ27 α := by rw [e28]; exact qFr_s hF12 86 36 _ (by decide)
      refine qr_aload_n 48 rfl rfl rfl ?_
      have hs31 : 0 ≤ σ27 86 36 ∧ σ27 86 36 ≤ 120 := hI29.1 86 36
      have hs32 : σ27 86 36 = ((σ9 86 36) + 1) := (congrFun (congrFun e28 86) 36).trans rfl
      have hs33 : 0 ≤ σ27 86 37 ∧ σ27 86 37 ≤ 120 := hI29.1 86 37
      have hs34 : σ27 86 37 = (σ 86 37) := (congrFun (congrFun e28 86) 37).trans ((hG11.1 86 37 (by decide)).trans rfl)
      have hs35 : 0 ≤ σ27 86 39 ∧ σ27 86 39 ≤ 6 := hI29.1 86 39
      have hs36 : σ27 86 39 = (σ9 86 39) := (congrFun (congrFun e28 86) 39).trans rfl
      refine qr_callN 51 rfl rfl rfl (sf_217_86o0 (d := d + 0) hI29 (by omega) (by omega)) ?_
      have hs39 : 0 ≤ σ27 86 36 ∧ σ27 86 36 ≤ 120 := hI29.1 86 36
      have hs40 : σ27 86 36 = ((σ9 86 36) + 1) := (congrFun (congrFun e28 86) 36).trans rfl
      have hs41 : 0 ≤ σ27 86 37 ∧ σ27 86 37 ≤ 120 := hI29.1 86 37
      have hs42 : σ27 86 37 = (σ 86 37) := (congrFun (congrFun e28 86) 37).trans ((hG11.1 86 37 (by decide)).trans rfl)
      have hs43 : 0 ≤ σ27 86 39 ∧ σ27 86 39 ≤ 6 := hI29.1 86 39
      have hs44 : σ27 86 39 = (σ9 86 39) := (congrFun (congrFun e28 86) 39).trans rfl
      rintro _ _ ⟨σ45, rfl, hI46, hG47, v37, rfl, hv37, hp38⟩
      have hF48 : qFr [(86, 36), (86, 38), (86, 39)] [] σ α σ45 α := qFr_t hF30 hG47 (by decide) (by decide)
      have hs49 : 0 ≤ σ45 86 36 ∧ σ45 86 36 ≤ 120 := hI46.1 86 36
      have hs50 : 0 ≤ σ45 86 37 ∧ σ45 86 37 ≤ 120 := hI46.1 86 37
      have hs51 : 0 ≤ σ45 86 39 ∧ σ45 86 39 ≤ 6 := hI46.1 86 39
      show qr_W (qe L xs vb) (d + 40) qx_e216 _ (51, _, [.int (qz v37)], qw σ45 α κ ρ, 0, 0)
      refine qr_istore_n _ 52 rfl (by decide) rfl rfl ?_
      refine qr_iload_n 53 rfl rfl rfl ?_
      refine qr_bipush 55 rfl (by decide) rfl ?_
      refine qr_icmp_ne 66 58 rfl rfl rfl hv16 (by decide) (fun h => False.elim (by omega)) (fun h52 => ?_)
      refine qr_iload_n 59 rfl rfl rfl ?_
      refine qr_iload_n 60 rfl rfl rfl ?_
      refine qr_icmp_ge 89 63 rfl rfl rfl hv4 hv37 (fun h53 => ?_) (fun h53 => ?_)
      · skip
        refine qr_iconst 90 rfl rfl ?_
        refine qr_retI rfl rfl (by decide) (by decide) ?_
        have hw54 : σ45 86 36 = (σ45 86 36) := rfl
        have hw55 : σ45 86 37 = (σ 86 37) := (hG47.1 86 37 (by decide)).trans ((congrFun (congrFun e28 86) 37).trans ((hG11.1 86 37 (by decide)).trans rfl))
        have hw56 : σ45 86 39 = (σ45 86 39) := rfl
        exact ⟨_, rfl, hI46, hF48, 0, rfl, (by decide), by omega⟩
      · skip
        refine qr_goto 85 rfl rfl ?_
        refine qr_iconst 86 rfl rfl ?_
        refine qr_goto 90 rfl rfl ?_
        refine qr_retI rfl rfl (by decide) (by decide) ?_
        have hw57 : σ45 86 36 = (σ45 86 36) := rfl
        have hw58 : σ45 86 37 = (σ 86 37) := (hG47.1 86 37 (by decide)).trans ((congrFun (congrFun e28 86) 37).trans ((hG11.1 86 37 (by decide)).trans rfl))
        have hw59 : σ45 86 39 = (σ45 86 39) := rfl
        exact ⟨_, rfl, hI46, hF48, 1, rfl, (by decide), by omega⟩
    · skip
      refine qr_iload_n 24 rfl rfl rfl ?_
      refine qr_bipush 26 rfl (by decide) rfl ?_
      refine qr_icmp_eq 37 29 rfl rfl rfl hv16 (by decide) (fun h60 => ?_) (fun h60 => ?_)
      · skip
        refine qr_aload_n 38 rfl rfl rfl ?_
        refine qr_dup 39 rfl rfl rfl ?_
        refine qr_get 42 rfl rfl rfl (by decide) rfl ?_
        refine qr_iconst 43 rfl rfl ?_
        refine qr_iadd 44 rfl rfl ?_
        refine qr_put 47 rfl (by decide) rfl (Nat.le_of_ble_eq_true rfl) (Nat.le_of_ble_eq_true rfl) (Or.inl rfl) (qr_fitI rfl _) rfl ?_
        refine qy_wS (qw_s σ9 86 36 ((σ9 86 36) + 1)) rfl (fun σ61 e62 => ?_)
        have hI63 : qI σ61 α κ ρ := by rw [e62]; exact qI_s hI10 86 36 rfl (show 0 ≤ ((σ9 86 36) + 1) ∧ ((σ9 86 36) + 1) ≤ 120 by omega)
        have hF64 : qFr [(86, 36), (86, 38), (86, 39)] [] σ α σ61 α := by rw [e62]; exact qFr_s hF12 86 36 _ (by decide)
        refine qr_aload_n 48 rfl rfl rfl ?_
        have hs65 : 0 ≤ σ61 86 36 ∧ σ61 86 36 ≤ 120 := hI63.1 86 36
        have hs66 : σ61 86 36 = ((σ9 86 36) + 1) := (congrFun (congrFun e62 86) 36).trans rfl
        have hs67 : 0 ≤ σ61 86 37 ∧ σ61 86 37 ≤ 120 := hI63.1 86 37
        have hs68 : σ61 86 37 = (σ 86 37) := (congrFun (congrFun e62 86) 37).trans ((hG11.1 86 37 (by decide)).trans rfl)
        have hs69 : 0 ≤ σ61 86 39 ∧ σ61 86 39 ≤ 6 := hI63.1 86 39
        have hs70 : σ61 86 39 = (σ9 86 39) := (congrFun (congrFun e62 86) 39).trans rfl
        refine qr_callN 51 rfl rfl rfl (sf_217_86o0 (d := d + 0) hI63 (by omega) (by omega)) ?_
        have hs73 : 0 ≤ σ61 86 36 ∧ σ61 86 36 ≤ 120 := hI63.1 86 36
        have hs74 : σ61 86 36 = ((σ9 86 36) + 1) := (congrFun (congrFun e62 86) 36).trans rfl
        have hs75 : 0 ≤ σ61 86 37 ∧ σ61 86 37 ≤ 120 := hI63.1 86 37
        have hs76 : σ61 86 37 = (σ 86 37) := (congrFun (congrFun e62 86) 37).trans ((hG11.1 86 37 (by decide)).trans rfl)
        have hs77 : 0 ≤ σ61 86 39 ∧ σ61 86 39 ≤ 6 := hI63.1 86 39
        have hs78 : σ61 86 39 = (σ9 86 39) := (congrFun (congrFun e62 86) 39).trans rfl
        rintro _ _ ⟨σ79, rfl, hI80, hG81, v71, rfl, hv71, hp72⟩
        have hF82 : qFr [(86, 36), (86, 38), (86, 39)] [] σ α σ79 α := qFr_t hF64 hG81 (by decide) (by decide)
        have hs83 : 0 ≤ σ79 86 36 ∧ σ79 86 36 ≤ 120 := hI80.1 86 36
        have hs84 : 0 ≤ σ79 86 37 ∧ σ79 86 37 ≤ 120 := hI80.1 86 37
        have hs85 : 0 ≤ σ79 86 39 ∧ σ79 86 39 ≤ 6 := hI80.1 86 39
        show qr_W (qe L xs vb) (d + 40) qx_e216 _ (51, _, [.int (qz v71)], qw σ79 α κ ρ, 0, 0)
        refine qr_istore_n _ 52 rfl (by decide) rfl rfl ?_
        refine qr_iload_n 53 rfl rfl rfl ?_
        refine qr_bipush 55 rfl (by decide) rfl ?_
        refine qr_icmp_ne 66 58 rfl rfl rfl hv16 (by decide) (fun h86 => ?_) (fun h => False.elim (by omega))
        refine qr_iload_n 67 rfl rfl rfl ?_
        refine qr_bipush 69 rfl (by decide) rfl ?_
        refine qr_icmp_ne 80 72 rfl rfl rfl hv16 (by decide) (fun h => False.elim (by omega)) (fun h87 => ?_)
        refine qr_iload_n 73 rfl rfl rfl ?_
        refine qr_iload_n 74 rfl rfl rfl ?_
        refine qr_icmp_ne 89 77 rfl rfl rfl hv4 hv71 (fun h88 => ?_) (fun h88 => ?_)
        · skip
          refine qr_iconst 90 rfl rfl ?_
          refine qr_retI rfl rfl (by decide) (by decide) ?_
          have hw89 : σ79 86 36 = (σ79 86 36) := rfl
          have hw90 : σ79 86 37 = (σ 86 37) := (hG81.1 86 37 (by decide)).trans ((congrFun (congrFun e62 86) 37).trans ((hG11.1 86 37 (by decide)).trans rfl))
          have hw91 : σ79 86 39 = (σ79 86 39) := rfl
          exact ⟨_, rfl, hI80, hF82, 0, rfl, (by decide), by omega⟩
        · skip
          refine qr_goto 85 rfl rfl ?_
          refine qr_iconst 86 rfl rfl ?_
          refine qr_goto 90 rfl rfl ?_
          refine qr_retI rfl rfl (by decide) (by decide) ?_
          have hw92 : σ79 86 36 = (σ79 86 36) := rfl
          have hw93 : σ79 86 37 = (σ 86 37) := (hG81.1 86 37 (by decide)).trans ((congrFun (congrFun e62 86) 37).trans ((hG11.1 86 37 (by decide)).trans rfl))
          have hw94 : σ79 86 39 = (σ79 86 39) := rfl
          exact ⟨_, rfl, hI80, hF82, 1, rfl, (by decide), by omega⟩
      · skip
        refine qr_iload_n 30 rfl rfl rfl ?_
        refine qr_bipush 32 rfl (by decide) rfl ?_
        refine qr_icmp_eq 37 35 rfl rfl rfl hv16 (by decide) (fun h95 => ?_) (fun h95 => ?_)
        · skip
          refine qr_aload_n 38 rfl rfl rfl ?_
          refine qr_dup 39 rfl rfl rfl ?_
          refine qr_get 42 rfl rfl rfl (by decide) rfl ?_
          refine qr_iconst 43 rfl rfl ?_
          refine qr_iadd 44 rfl rfl ?_
          refine qr_put 47 rfl (by decide) rfl (Nat.le_of_ble_eq_true rfl) (Nat.le_of_ble_eq_true rfl) (Or.inl rfl) (qr_fitI rfl _) rfl ?_
          refine qy_wS (qw_s σ9 86 36 ((σ9 86 36) + 1)) rfl (fun σ96 e97 => ?_)
          have hI98 : qI σ96 α κ ρ := by rw [e97]; exact qI_s hI10 86 36 rfl (show 0 ≤ ((σ9 86 36) + 1) ∧ ((σ9 86 36) + 1) ≤ 120 by omega)
          have hF99 : qFr [(86, 36), (86, 38), (86, 39)] [] σ α σ96 α := by rw [e97]; exact qFr_s hF12 86 36 _ (by decide)
          refine qr_aload_n 48 rfl rfl rfl ?_
          have hs100 : 0 ≤ σ96 86 36 ∧ σ96 86 36 ≤ 120 := hI98.1 86 36
          have hs101 : σ96 86 36 = ((σ9 86 36) + 1) := (congrFun (congrFun e97 86) 36).trans rfl
          have hs102 : 0 ≤ σ96 86 37 ∧ σ96 86 37 ≤ 120 := hI98.1 86 37
          have hs103 : σ96 86 37 = (σ 86 37) := (congrFun (congrFun e97 86) 37).trans ((hG11.1 86 37 (by decide)).trans rfl)
          have hs104 : 0 ≤ σ96 86 39 ∧ σ96 86 39 ≤ 6 := hI98.1 86 39
          have hs105 : σ96 86 39 = (σ9 86 39) := (congrFun (congrFun e97 86) 39).trans rfl
          refine qr_callN 51 rfl rfl rfl (sf_217_86o0 (d := d + 0) hI98 (by omega) (by omega)) ?_
          have hs108 : 0 ≤ σ96 86 36 ∧ σ96 86 36 ≤ 120 := hI98.1 86 36
          have hs109 : σ96 86 36 = ((σ9 86 36) + 1) := (congrFun (congrFun e97 86) 36).trans rfl
          have hs110 : 0 ≤ σ96 86 37 ∧ σ96 86 37 ≤ 120 := hI98.1 86 37
          have hs111 : σ96 86 37 = (σ 86 37) := (congrFun (congrFun e97 86) 37).trans ((hG11.1 86 37 (by decide)).trans rfl)
          have hs112 : 0 ≤ σ96 86 39 ∧ σ96 86 39 ≤ 6 := hI98.1 86 39
          have hs113 : σ96 86 39 = (σ9 86 39) := (congrFun (congrFun e97 86) 39).trans rfl
          rintro _ _ ⟨σ114, rfl, hI115, hG116, v106, rfl, hv106, hp107⟩
          have hF117 : qFr [(86, 36), (86, 38), (86, 39)] [] σ α σ114 α := qFr_t hF99 hG116 (by decide) (by decide)
          have hs118 : 0 ≤ σ114 86 36 ∧ σ114 86 36 ≤ 120 := hI115.1 86 36
          have hs119 : 0 ≤ σ114 86 37 ∧ σ114 86 37 ≤ 120 := hI115.1 86 37
          have hs120 : 0 ≤ σ114 86 39 ∧ σ114 86 39 ≤ 6 := hI115.1 86 39
          show qr_W (qe L xs vb) (d + 40) qx_e216 _ (51, _, [.int (qz v106)], qw σ114 α κ ρ, 0, 0)
          refine qr_istore_n _ 52 rfl (by decide) rfl rfl ?_
          refine qr_iload_n 53 rfl rfl rfl ?_
          refine qr_bipush 55 rfl (by decide) rfl ?_
          refine qr_icmp_ne 66 58 rfl rfl rfl hv16 (by decide) (fun h121 => ?_) (fun h => False.elim (by omega))
          refine qr_iload_n 67 rfl rfl rfl ?_
          refine qr_bipush 69 rfl (by decide) rfl ?_
          refine qr_icmp_ne 80 72 rfl rfl rfl hv16 (by decide) (fun h122 => ?_) (fun h => False.elim (by omega))
          refine qr_iload_n 81 rfl rfl rfl ?_
          refine qr_iload_n 82 rfl rfl rfl ?_
          refine qr_icmp_le 89 85 rfl rfl rfl hv4 hv106 (fun h123 => ?_) (fun h123 => ?_)
          · skip
            refine qr_iconst 90 rfl rfl ?_
            refine qr_retI rfl rfl (by decide) (by decide) ?_
            have hw124 : σ114 86 36 = (σ114 86 36) := rfl
            have hw125 : σ114 86 37 = (σ 86 37) := (hG116.1 86 37 (by decide)).trans ((congrFun (congrFun e97 86) 37).trans ((hG11.1 86 37 (by decide)).trans rfl))
            have hw126 : σ114 86 39 = (σ114 86 39) := rfl
            exact ⟨_, rfl, hI115, hF117, 0, rfl, (by decide), by omega⟩
          · skip
            refine qr_iconst 86 rfl rfl ?_
            refine qr_goto 90 rfl rfl ?_
            refine qr_retI rfl rfl (by decide) (by decide) ?_
            have hw127 : σ114 86 36 = (σ114 86 36) := rfl
            have hw128 : σ114 86 37 = (σ 86 37) := (hG116.1 86 37 (by decide)).trans ((congrFun (congrFun e97 86) 37).trans ((hG11.1 86 37 (by decide)).trans rfl))
            have hw129 : σ114 86 39 = (σ114 86 39) := rfl
            exact ⟨_, rfl, hI115, hF117, 1, rfl, (by decide), by omega⟩
        · skip
          refine qr_iload_n 36 rfl rfl rfl ?_
          refine qr_retI rfl rfl (by decide) (by decide) ?_
          have hw130 : σ9 86 36 = (σ9 86 36) := rfl
          have hw131 : σ9 86 37 = (σ 86 37) := (hG11.1 86 37 (by decide)).trans rfl
          have hw132 : σ9 86 39 = (σ9 86 39) := rfl
          exact ⟨_, rfl, hI10, hF12, v4, rfl, hv4, by omega⟩

set_option maxHeartbeats 4000000 in
set_option maxRecDepth 20000 in
/-- OneRoofModel.both -/
theorem sf_215_86o0 {L : Nat} {xs : Nat → Int} {vb : Bool} {d : Nat} {σ α : Nat → Nat → Int} {κ : Nat → Option Nat} {ρ : Nat}  (hI : qI σ α κ ρ) (p0 : 0 ≤ σ 86 39) (p1 : σ 86 36 ≤ σ 86 37) : qm_T (qe L xs vb) (d + 42) 215 [.ref 86] (qw σ α κ ρ) (fun r w' => ∃ σ', w' = qw σ' α κ ρ ∧ qI σ' α κ ρ ∧ qFr [(86, 36), (86, 38), (86, 39)] [] σ α σ' α ∧ ∃ v : Int, r = some (.int (qz v)) ∧ ((-2147483648) ≤ v ∧ v ≤ 2147483647) ∧ σ 86 39 ≤ σ' 86 39 ∧ σ 86 36 ≤ σ' 86 36 ∧ σ' 86 36 ≤ σ' 86 37 ∧ σ' 86 37 = σ 86 37) := by
  refine qr_start (d := d + 41) qv_e215 (Nat.le_of_ble_eq_true rfl) ?_
  show qr_W (qe L xs vb) (d + 41) qx_e215 _ (0, [(0, .ref 86)], [], _, 0, 0)
  have hF0 := qFr_rf [(86, 36), (86, 38), (86, 39)] [] σ α
  have hz86_39 : 0 ≤ σ 86 39 ∧ σ 86 39 ≤ 6 := hI.1 86 39
  have hz86_36 : 0 ≤ σ 86 36 ∧ σ 86 36 ≤ 120 := hI.1 86 36
  have hz86_37 : 0 ≤ σ 86 37 ∧ σ 86 37 ≤ 120 := hI.1 86 37
  refine qr_aload_n 1 rfl rfl rfl ?_
  have hs1 : 0 ≤ σ 86 36 ∧ σ 86 36 ≤ 120 := hI.1 86 36
  have hs2 : 0 ≤ σ 86 37 ∧ σ 86 37 ≤ 120 := hI.1 86 37
  have hs3 : 0 ≤ σ 86 39 ∧ σ 86 39 ≤ 6 := hI.1 86 39
  refine qr_callN 4 rfl rfl rfl (sf_216_86o0 (d := d + 0) hI (by omega) (by omega)) ?_
  have hs6 : 0 ≤ σ 86 36 ∧ σ 86 36 ≤ 120 := hI.1 86 36
  have hs7 : 0 ≤ σ 86 37 ∧ σ 86 37 ≤ 120 := hI.1 86 37
  have hs8 : 0 ≤ σ 86 39 ∧ σ 86 39 ≤ 6 := hI.1 86 39
  rintro _ _ ⟨σ9, rfl, hI10, hG11, v4, rfl, hv4, hp5⟩
  have hF12 : qFr [(86, 36), (86, 38), (86, 39)] [] σ α σ9 α := qFr_t hF0 hG11 (by decide) (by decide)
  have hs13 : 0 ≤ σ9 86 36 ∧ σ9 86 36 ≤ 120 := hI10.1 86 36
  have hs14 : 0 ≤ σ9 86 37 ∧ σ9 86 37 ≤ 120 := hI10.1 86 37
  have hs15 : 0 ≤ σ9 86 39 ∧ σ9 86 39 ≤ 6 := hI10.1 86 39
  show qr_W (qe L xs vb) (d + 41) qx_e215 _ (4, _, [.int (qz v4)], qw σ9 α κ ρ, 0, 0)
  refine qr_istore_n _ 5 rfl (by decide) rfl rfl ?_
  have hL166 : ∀ (n : Nat) (ls : qm_L) (u154 : Int) (σ155 : Nat → Nat → Int), ((120 - σ155 86 36).toNat : Int) < (n : Int) → qm_get ls 0 = some (.ref 86) → qm_get ls 1 = some (.int (qz u154)) → ((-2147483648) ≤ u154 ∧ u154 ≤ 2147483647) → qI σ155 α κ ρ → qFr [(86, 36), (86, 38), (86, 39)] [] σ α σ155 α → σ155 86 37 = (σ 86 37) → 0 ≤ σ155 86 39 → σ 86 39 ≤ σ155 86 39 → σ 86 36 ≤ σ155 86 36 → σ155 86 36 ≤ σ155 86 37 → σ155 86 37 = σ 86 37 → qr_W (qe L xs vb) (d + 41) qx_e215 (fun r w' => ∃ σ', w' = qw σ' α κ ρ ∧ qI σ' α κ ρ ∧ qFr [(86, 36), (86, 38), (86, 39)] [] σ α σ' α ∧ ∃ v : Int, r = some (.int (qz v)) ∧ ((-2147483648) ≤ v ∧ v ≤ 2147483647) ∧ σ 86 39 ≤ σ' 86 39 ∧ σ 86 36 ≤ σ' 86 36 ∧ σ' 86 36 ≤ σ' 86 37 ∧ σ' 86 37 = σ 86 37) (5, ls, [], qw σ155 α κ ρ, 0, 0) := by
    intro n
    induction n with
    | zero => intro ls u154 σ155 hm g152 g153 hf160 hI157 hF158 hk159 hx161 hx162 hx163 hx164 hx165; exact False.elim (by omega)
    | succ n ih167 =>
      intro ls u154 σ155 hm g152 g153 hf160 hI157 hF158 hk159 hx161 hx162 hx163 hx164 hx165
      have hs168 : 0 ≤ σ155 86 39 ∧ σ155 86 39 ≤ 6 := hI157.1 86 39
      have hs169 : 0 ≤ σ155 86 36 ∧ σ155 86 36 ≤ 120 := hI157.1 86 36
      have hs170 : 0 ≤ σ155 86 37 ∧ σ155 86 37 ≤ 120 := hI157.1 86 37
      refine qr_aload_n 6 rfl g152 rfl ?_
      refine qr_bipush 8 rfl (by decide) rfl ?_
      refine qr_callN 11 rfl rfl rfl (sf_222_86t (d := d + 39) hI157 (by decide) (by omega)) ?_
      have hs173 : 0 ≤ σ155 86 36 ∧ σ155 86 36 ≤ 120 := hI157.1 86 36
      have hs174 : 0 ≤ σ155 86 37 ∧ σ155 86 37 ≤ 120 := hI157.1 86 37
      have hs175 : σ155 86 37 = (σ 86 37) := (hk159).trans rfl
      rintro _ _ ⟨σ176, rfl, hI177, hG178, v171, rfl, hv171, hp172⟩
      have hF179 : qFr [(86, 36), (86, 38), (86, 39)] [] σ α σ176 α := qFr_t hF158 hG178 (by decide) (by decide)
      have hs180 : 0 ≤ σ176 86 36 ∧ σ176 86 36 ≤ 120 := hI177.1 86 36
      show qr_W (qe L xs vb) (d + 41) qx_e215 _ (11, _, [.int (qz v171)], qw σ176 α κ ρ, 0, 0)
      refine qr_if_eq 36 14 rfl rfl rfl (qrg hv171 (by decide) (by decide)) (fun h181 => ?_) (fun h181 => ?_)
      · skip
        refine qr_iload_n 37 rfl g153 rfl ?_
        refine qr_retI rfl rfl (by decide) (by decide) ?_
        have hw182 : σ176 86 36 = (σ176 86 36) := rfl
        have hw183 : σ176 86 37 = (σ 86 37) := (hG178.1 86 37 (by decide)).trans ((hk159).trans rfl)
        have hw184 : σ176 86 39 = (σ155 86 39) := (hG178.1 86 39 (by decide)).trans rfl
        exact ⟨_, rfl, hI177, hF179, u154, rfl, hf160, by omega⟩
      · skip
        refine qr_aload_n 15 rfl g152 rfl ?_
        have hs185 : 0 ≤ σ176 86 36 ∧ σ176 86 36 ≤ 120 := hI177.1 86 36
        have hs186 : 0 ≤ σ176 86 37 ∧ σ176 86 37 ≤ 120 := hI177.1 86 37
        have hs187 : σ176 86 37 = (σ 86 37) := (hG178.1 86 37 (by decide)).trans ((hk159).trans rfl)
        have hs188 : 0 ≤ σ176 86 39 ∧ σ176 86 39 ≤ 6 := hI177.1 86 39
        have hs189 : σ176 86 39 = (σ155 86 39) := (hG178.1 86 39 (by decide)).trans rfl
        refine qr_callN 18 rfl rfl rfl (sf_216_86o0 (d := d + 0) hI177 (by omega) (by omega)) ?_
        have hs192 : 0 ≤ σ176 86 36 ∧ σ176 86 36 ≤ 120 := hI177.1 86 36
        have hs193 : 0 ≤ σ176 86 37 ∧ σ176 86 37 ≤ 120 := hI177.1 86 37
        have hs194 : σ176 86 37 = (σ 86 37) := (hG178.1 86 37 (by decide)).trans ((hk159).trans rfl)
        have hs195 : 0 ≤ σ176 86 39 ∧ σ176 86 39 ≤ 6 := hI177.1 86 39
        have hs196 : σ176 86 39 = (σ155 86 39) := (hG178.1 86 39 (by decide)).trans rfl
        rintro _ _ ⟨σ197, rfl, hI198, hG199, v190, rfl, hv190, hp191⟩
        have hF200 : qFr [(86, 36), (86, 38), (86, 39)] [] σ α σ197 α := qFr_t hF179 hG199 (by decide) (by decide)
        have hs201 : 0 ≤ σ197 86 36 ∧ σ197 86 36 ≤ 120 := hI198.1 86 36
        have hs202 : 0 ≤ σ197 86 37 ∧ σ197 86 37 ≤ 120 := hI198.1 86 37
        have hs203 : 0 ≤ σ197 86 39 ∧ σ197 86 39 ≤ 6 := hI198.1 86 39
        show qr_W (qe L xs vb) (d + 41) qx_e215 _ (18, _, [.int (qz v190)], qw σ197 α κ ρ, 0, 0)
        refine qr_istore_n _ 19 rfl (by decide) rfl rfl ?_
        refine qr_iload_n 20 rfl (qm_gk g153 (by decide) (Or.inr rfl)) rfl ?_
        refine qr_if_eq 31 23 rfl rfl rfl hf160 (fun h204 => ?_) (fun h204 => ?_)
        · skip
          refine qr_iconst 32 rfl rfl ?_
          refine qr_istore_n _ 33 rfl (by decide) rfl rfl ?_
          refine qr_goto 5 rfl rfl ?_
          exact ih167 _ 0 σ197 (by omega) (qm_gk (qm_gk g152 (by decide) (Or.inl (by decide))) (by decide) (Or.inr rfl)) (qm_ge _ _ _) (by decide) hI198 hF200 ((hG199.1 86 37 (by decide)).trans ((hG178.1 86 37 (by decide)).trans ((hk159).trans rfl))) (by have hw0 : σ197 86 39 = (σ197 86 39) := rfl; have hw1 : σ197 86 36 = (σ197 86 36) := rfl; have hw2 : σ197 86 37 = (σ 86 37) := (hG199.1 86 37 (by decide)).trans ((hG178.1 86 37 (by decide)).trans ((hk159).trans rfl)); omega) (by have hw0 : σ197 86 39 = (σ197 86 39) := rfl; have hw1 : σ197 86 36 = (σ197 86 36) := rfl; have hw2 : σ197 86 37 = (σ 86 37) := (hG199.1 86 37 (by decide)).trans ((hG178.1 86 37 (by decide)).trans ((hk159).trans rfl)); omega) (by have hw0 : σ197 86 39 = (σ197 86 39) := rfl; have hw1 : σ197 86 36 = (σ197 86 36) := rfl; have hw2 : σ197 86 37 = (σ 86 37) := (hG199.1 86 37 (by decide)).trans ((hG178.1 86 37 (by decide)).trans ((hk159).trans rfl)); omega) (by have hw0 : σ197 86 39 = (σ197 86 39) := rfl; have hw1 : σ197 86 36 = (σ197 86 36) := rfl; have hw2 : σ197 86 37 = (σ 86 37) := (hG199.1 86 37 (by decide)).trans ((hG178.1 86 37 (by decide)).trans ((hk159).trans rfl)); omega) (by have hw0 : σ197 86 39 = (σ197 86 39) := rfl; have hw1 : σ197 86 36 = (σ197 86 36) := rfl; have hw2 : σ197 86 37 = (σ 86 37) := (hG199.1 86 37 (by decide)).trans ((hG178.1 86 37 (by decide)).trans ((hk159).trans rfl)); omega)
        · skip
          refine qr_iload_n 24 rfl (qm_ge _ _ _) rfl ?_
          refine qr_if_eq 31 27 rfl rfl rfl hv190 (fun h205 => ?_) (fun h205 => ?_)
          · skip
            refine qr_iconst 32 rfl rfl ?_
            refine qr_istore_n _ 33 rfl (by decide) rfl rfl ?_
            refine qr_goto 5 rfl rfl ?_
            exact ih167 _ 0 σ197 (by omega) (qm_gk (qm_gk g152 (by decide) (Or.inl (by decide))) (by decide) (Or.inr rfl)) (qm_ge _ _ _) (by decide) hI198 hF200 ((hG199.1 86 37 (by decide)).trans ((hG178.1 86 37 (by decide)).trans ((hk159).trans rfl))) (by have hw0 : σ197 86 39 = (σ197 86 39) := rfl; have hw1 : σ197 86 36 = (σ197 86 36) := rfl; have hw2 : σ197 86 37 = (σ 86 37) := (hG199.1 86 37 (by decide)).trans ((hG178.1 86 37 (by decide)).trans ((hk159).trans rfl)); omega) (by have hw0 : σ197 86 39 = (σ197 86 39) := rfl; have hw1 : σ197 86 36 = (σ197 86 36) := rfl; have hw2 : σ197 86 37 = (σ 86 37) := (hG199.1 86 37 (by decide)).trans ((hG178.1 86 37 (by decide)).trans ((hk159).trans rfl)); omega) (by have hw0 : σ197 86 39 = (σ197 86 39) := rfl; have hw1 : σ197 86 36 = (σ197 86 36) := rfl; have hw2 : σ197 86 37 = (σ 86 37) := (hG199.1 86 37 (by decide)).trans ((hG178.1 86 37 (by decide)).trans ((hk159).trans rfl)); omega) (by have hw0 : σ197 86 39 = (σ197 86 39) := rfl; have hw1 : σ197 86 36 = (σ197 86 36) := rfl; have hw2 : σ197 86 37 = (σ 86 37) := (hG199.1 86 37 (by decide)).trans ((hG178.1 86 37 (by decide)).trans ((hk159).trans rfl)); omega) (by have hw0 : σ197 86 39 = (σ197 86 39) := rfl; have hw1 : σ197 86 36 = (σ197 86 36) := rfl; have hw2 : σ197 86 37 = (σ 86 37) := (hG199.1 86 37 (by decide)).trans ((hG178.1 86 37 (by decide)).trans ((hk159).trans rfl)); omega)
          · skip
            refine qr_iconst 28 rfl rfl ?_
            refine qr_goto 32 rfl rfl ?_
            refine qr_istore_n _ 33 rfl (by decide) rfl rfl ?_
            refine qr_goto 5 rfl rfl ?_
            exact ih167 _ 1 σ197 (by omega) (qm_gk (qm_gk g152 (by decide) (Or.inl (by decide))) (by decide) (Or.inr rfl)) (qm_ge _ _ _) (by decide) hI198 hF200 ((hG199.1 86 37 (by decide)).trans ((hG178.1 86 37 (by decide)).trans ((hk159).trans rfl))) (by have hw0 : σ197 86 39 = (σ197 86 39) := rfl; have hw1 : σ197 86 36 = (σ197 86 36) := rfl; have hw2 : σ197 86 37 = (σ 86 37) := (hG199.1 86 37 (by decide)).trans ((hG178.1 86 37 (by decide)).trans ((hk159).trans rfl)); omega) (by have hw0 : σ197 86 39 = (σ197 86 39) := rfl; have hw1 : σ197 86 36 = (σ197 86 36) := rfl; have hw2 : σ197 86 37 = (σ 86 37) := (hG199.1 86 37 (by decide)).trans ((hG178.1 86 37 (by decide)).trans ((hk159).trans rfl)); omega) (by have hw0 : σ197 86 39 = (σ197 86 39) := rfl; have hw1 : σ197 86 36 = (σ197 86 36) := rfl; have hw2 : σ197 86 37 = (σ 86 37) := (hG199.1 86 37 (by decide)).trans ((hG178.1 86 37 (by decide)).trans ((hk159).trans rfl)); omega) (by have hw0 : σ197 86 39 = (σ197 86 39) := rfl; have hw1 : σ197 86 36 = (σ197 86 36) := rfl; have hw2 : σ197 86 37 = (σ 86 37) := (hG199.1 86 37 (by decide)).trans ((hG178.1 86 37 (by decide)).trans ((hk159).trans rfl)); omega) (by have hw0 : σ197 86 39 = (σ197 86 39) := rfl; have hw1 : σ197 86 36 = (σ197 86 36) := rfl; have hw2 : σ197 86 37 = (σ 86 37) := (hG199.1 86 37 (by decide)).trans ((hG178.1 86 37 (by decide)).trans ((hk159).trans rfl)); omega)
  exact hL166 ((((120 - σ9 86 36).toNat : Int) + 1 : Int)).toNat _ v4 σ9 (by omega) rfl rfl hv4 hI10 hF12 ((hG11.1 86 37 (by decide)).trans rfl) (by have hw0 : σ9 86 39 = (σ9 86 39) := rfl; have hw1 : σ9 86 36 = (σ9 86 36) := rfl; have hw2 : σ9 86 37 = (σ 86 37) := (hG11.1 86 37 (by decide)).trans rfl; omega) (by have hw0 : σ9 86 39 = (σ9 86 39) := rfl; have hw1 : σ9 86 36 = (σ9 86 36) := rfl; have hw2 : σ9 86 37 = (σ 86 37) := (hG11.1 86 37 (by decide)).trans rfl; omega) (by have hw0 : σ9 86 39 = (σ9 86 39) := rfl; have hw1 : σ9 86 36 = (σ9 86 36) := rfl; have hw2 : σ9 86 37 = (σ 86 37) := (hG11.1 86 37 (by decide)).trans rfl; omega) (by have hw0 : σ9 86 39 = (σ9 86 39) := rfl; have hw1 : σ9 86 36 = (σ9 86 36) := rfl; have hw2 : σ9 86 37 = (σ 86 37) := (hG11.1 86 37 (by decide)).trans rfl; omega) (by have hw0 : σ9 86 39 = (σ9 86 39) := rfl; have hw1 : σ9 86 36 = (σ9 86 36) := rfl; have hw2 : σ9 86 37 = (σ 86 37) := (hG11.1 86 37 (by decide)).trans rfl; omega)

set_option maxHeartbeats 4000000 in
set_option maxRecDepth 20000 in
/-- OneRoofModel.either -/
theorem sf_214_86o0 {L : Nat} {xs : Nat → Int} {vb : Bool} {d : Nat} {σ α : Nat → Nat → Int} {κ : Nat → Option Nat} {ρ : Nat}  (hI : qI σ α κ ρ) (p0 : 0 ≤ σ 86 39) (p1 : σ 86 36 ≤ σ 86 37) : qm_T (qe L xs vb) (d + 43) 214 [.ref 86] (qw σ α κ ρ) (fun r w' => ∃ σ', w' = qw σ' α κ ρ ∧ qI σ' α κ ρ ∧ qFr [(86, 36), (86, 38), (86, 39)] [] σ α σ' α ∧ ∃ v : Int, r = some (.int (qz v)) ∧ ((-2147483648) ≤ v ∧ v ≤ 2147483647) ∧ σ 86 39 ≤ σ' 86 39 ∧ σ 86 36 ≤ σ' 86 36 ∧ σ' 86 36 ≤ σ' 86 37 ∧ σ' 86 37 = σ 86 37) := by
  refine qr_start (d := d + 42) qv_e214 (Nat.le_of_ble_eq_true rfl) ?_
  show qr_W (qe L xs vb) (d + 42) qx_e214 _ (0, [(0, .ref 86)], [], _, 0, 0)
  have hF0 := qFr_rf [(86, 36), (86, 38), (86, 39)] [] σ α
  have hz86_39 : 0 ≤ σ 86 39 ∧ σ 86 39 ≤ 6 := hI.1 86 39
  have hz86_36 : 0 ≤ σ 86 36 ∧ σ 86 36 ≤ 120 := hI.1 86 36
  have hz86_37 : 0 ≤ σ 86 37 ∧ σ 86 37 ≤ 120 := hI.1 86 37
  refine qr_aload_n 1 rfl rfl rfl ?_
  have hs1 : 0 ≤ σ 86 36 ∧ σ 86 36 ≤ 120 := hI.1 86 36
  have hs2 : 0 ≤ σ 86 37 ∧ σ 86 37 ≤ 120 := hI.1 86 37
  have hs3 : 0 ≤ σ 86 39 ∧ σ 86 39 ≤ 6 := hI.1 86 39
  refine qr_callN 4 rfl rfl rfl (sf_215_86o0 (d := d + 0) hI (by omega) (by omega)) ?_
  have hs6 : 0 ≤ σ 86 36 ∧ σ 86 36 ≤ 120 := hI.1 86 36
  have hs7 : 0 ≤ σ 86 37 ∧ σ 86 37 ≤ 120 := hI.1 86 37
  have hs8 : 0 ≤ σ 86 39 ∧ σ 86 39 ≤ 6 := hI.1 86 39
  rintro _ _ ⟨σ9, rfl, hI10, hG11, v4, rfl, hv4, hp5⟩
  have hF12 : qFr [(86, 36), (86, 38), (86, 39)] [] σ α σ9 α := qFr_t hF0 hG11 (by decide) (by decide)
  have hs13 : 0 ≤ σ9 86 36 ∧ σ9 86 36 ≤ 120 := hI10.1 86 36
  have hs14 : 0 ≤ σ9 86 37 ∧ σ9 86 37 ≤ 120 := hI10.1 86 37
  have hs15 : 0 ≤ σ9 86 39 ∧ σ9 86 39 ≤ 6 := hI10.1 86 39
  show qr_W (qe L xs vb) (d + 42) qx_e214 _ (4, _, [.int (qz v4)], qw σ9 α κ ρ, 0, 0)
  refine qr_istore_n _ 5 rfl (by decide) rfl rfl ?_
  have hL166 : ∀ (n : Nat) (ls : qm_L) (u154 : Int) (σ155 : Nat → Nat → Int), ((120 - σ155 86 36).toNat : Int) < (n : Int) → qm_get ls 0 = some (.ref 86) → qm_get ls 1 = some (.int (qz u154)) → ((-2147483648) ≤ u154 ∧ u154 ≤ 2147483647) → qI σ155 α κ ρ → qFr [(86, 36), (86, 38), (86, 39)] [] σ α σ155 α → σ155 86 37 = (σ 86 37) → 0 ≤ σ155 86 39 → σ 86 39 ≤ σ155 86 39 → σ 86 36 ≤ σ155 86 36 → σ155 86 36 ≤ σ155 86 37 → σ155 86 37 = σ 86 37 → qr_W (qe L xs vb) (d + 42) qx_e214 (fun r w' => ∃ σ', w' = qw σ' α κ ρ ∧ qI σ' α κ ρ ∧ qFr [(86, 36), (86, 38), (86, 39)] [] σ α σ' α ∧ ∃ v : Int, r = some (.int (qz v)) ∧ ((-2147483648) ≤ v ∧ v ≤ 2147483647) ∧ σ 86 39 ≤ σ' 86 39 ∧ σ 86 36 ≤ σ' 86 36 ∧ σ' 86 36 ≤ σ' 86 37 ∧ σ' 86 37 = σ 86 37) (5, ls, [], qw σ155 α κ ρ, 0, 0) := by
    intro n
    induction n with
    | zero => intro ls u154 σ155 hm g152 g153 hf160 hI157 hF158 hk159 hx161 hx162 hx163 hx164 hx165; exact False.elim (by omega)
    | succ n ih167 =>
      intro ls u154 σ155 hm g152 g153 hf160 hI157 hF158 hk159 hx161 hx162 hx163 hx164 hx165
      have hs168 : 0 ≤ σ155 86 39 ∧ σ155 86 39 ≤ 6 := hI157.1 86 39
      have hs169 : 0 ≤ σ155 86 36 ∧ σ155 86 36 ≤ 120 := hI157.1 86 36
      have hs170 : 0 ≤ σ155 86 37 ∧ σ155 86 37 ≤ 120 := hI157.1 86 37
      refine qr_aload_n 6 rfl g152 rfl ?_
      refine qr_bipush 8 rfl (by decide) rfl ?_
      refine qr_callN 11 rfl rfl rfl (sf_222_86t (d := d + 40) hI157 (by decide) (by omega)) ?_
      have hs173 : 0 ≤ σ155 86 36 ∧ σ155 86 36 ≤ 120 := hI157.1 86 36
      have hs174 : 0 ≤ σ155 86 37 ∧ σ155 86 37 ≤ 120 := hI157.1 86 37
      have hs175 : σ155 86 37 = (σ 86 37) := (hk159).trans rfl
      rintro _ _ ⟨σ176, rfl, hI177, hG178, v171, rfl, hv171, hp172⟩
      have hF179 : qFr [(86, 36), (86, 38), (86, 39)] [] σ α σ176 α := qFr_t hF158 hG178 (by decide) (by decide)
      have hs180 : 0 ≤ σ176 86 36 ∧ σ176 86 36 ≤ 120 := hI177.1 86 36
      show qr_W (qe L xs vb) (d + 42) qx_e214 _ (11, _, [.int (qz v171)], qw σ176 α κ ρ, 0, 0)
      refine qr_if_eq 36 14 rfl rfl rfl (qrg hv171 (by decide) (by decide)) (fun h181 => ?_) (fun h181 => ?_)
      · skip
        refine qr_iload_n 37 rfl g153 rfl ?_
        refine qr_retI rfl rfl (by decide) (by decide) ?_
        have hw182 : σ176 86 36 = (σ176 86 36) := rfl
        have hw183 : σ176 86 37 = (σ 86 37) := (hG178.1 86 37 (by decide)).trans ((hk159).trans rfl)
        have hw184 : σ176 86 39 = (σ155 86 39) := (hG178.1 86 39 (by decide)).trans rfl
        exact ⟨_, rfl, hI177, hF179, u154, rfl, hf160, by omega⟩
      · skip
        refine qr_aload_n 15 rfl g152 rfl ?_
        have hs185 : 0 ≤ σ176 86 36 ∧ σ176 86 36 ≤ 120 := hI177.1 86 36
        have hs186 : 0 ≤ σ176 86 37 ∧ σ176 86 37 ≤ 120 := hI177.1 86 37
        have hs187 : σ176 86 37 = (σ 86 37) := (hG178.1 86 37 (by decide)).trans ((hk159).trans rfl)
        have hs188 : 0 ≤ σ176 86 39 ∧ σ176 86 39 ≤ 6 := hI177.1 86 39
        have hs189 : σ176 86 39 = (σ155 86 39) := (hG178.1 86 39 (by decide)).trans rfl
        refine qr_callN 18 rfl rfl rfl (sf_215_86o0 (d := d + 0) hI177 (by omega) (by omega)) ?_
        have hs192 : 0 ≤ σ176 86 36 ∧ σ176 86 36 ≤ 120 := hI177.1 86 36
        have hs193 : 0 ≤ σ176 86 37 ∧ σ176 86 37 ≤ 120 := hI177.1 86 37
        have hs194 : σ176 86 37 = (σ 86 37) := (hG178.1 86 37 (by decide)).trans ((hk159).trans rfl)
        have hs195 : 0 ≤ σ176 86 39 ∧ σ176 86 39 ≤ 6 := hI177.1 86 39
        have hs196 : σ176 86 39 = (σ155 86 39) := (hG178.1 86 39 (by decide)).trans rfl
        rintro _ _ ⟨σ197, rfl, hI198, hG199, v190, rfl, hv190, hp191⟩
        have hF200 : qFr [(86, 36), (86, 38), (86, 39)] [] σ α σ197 α := qFr_t hF179 hG199 (by decide) (by decide)
        have hs201 : 0 ≤ σ197 86 36 ∧ σ197 86 36 ≤ 120 := hI198.1 86 36
        have hs202 : 0 ≤ σ197 86 37 ∧ σ197 86 37 ≤ 120 := hI198.1 86 37
        have hs203 : 0 ≤ σ197 86 39 ∧ σ197 86 39 ≤ 6 := hI198.1 86 39
        show qr_W (qe L xs vb) (d + 42) qx_e214 _ (18, _, [.int (qz v190)], qw σ197 α κ ρ, 0, 0)
        refine qr_istore_n _ 19 rfl (by decide) rfl rfl ?_
        refine qr_iload_n 20 rfl (qm_gk g153 (by decide) (Or.inr rfl)) rfl ?_
        refine qr_if_ne 27 23 rfl rfl rfl hf160 (fun h204 => ?_) (fun h204 => ?_)
        · skip
          refine qr_iconst 28 rfl rfl ?_
          refine qr_goto 32 rfl rfl ?_
          refine qr_istore_n _ 33 rfl (by decide) rfl rfl ?_
          refine qr_goto 5 rfl rfl ?_
          exact ih167 _ 1 σ197 (by omega) (qm_gk (qm_gk g152 (by decide) (Or.inl (by decide))) (by decide) (Or.inr rfl)) (qm_ge _ _ _) (by decide) hI198 hF200 ((hG199.1 86 37 (by decide)).trans ((hG178.1 86 37 (by decide)).trans ((hk159).trans rfl))) (by have hw0 : σ197 86 39 = (σ197 86 39) := rfl; have hw1 : σ197 86 36 = (σ197 86 36) := rfl; have hw2 : σ197 86 37 = (σ 86 37) := (hG199.1 86 37 (by decide)).trans ((hG178.1 86 37 (by decide)).trans ((hk159).trans rfl)); omega) (by have hw0 : σ197 86 39 = (σ197 86 39) := rfl; have hw1 : σ197 86 36 = (σ197 86 36) := rfl; have hw2 : σ197 86 37 = (σ 86 37) := (hG199.1 86 37 (by decide)).trans ((hG178.1 86 37 (by decide)).trans ((hk159).trans rfl)); omega) (by have hw0 : σ197 86 39 = (σ197 86 39) := rfl; have hw1 : σ197 86 36 = (σ197 86 36) := rfl; have hw2 : σ197 86 37 = (σ 86 37) := (hG199.1 86 37 (by decide)).trans ((hG178.1 86 37 (by decide)).trans ((hk159).trans rfl)); omega) (by have hw0 : σ197 86 39 = (σ197 86 39) := rfl; have hw1 : σ197 86 36 = (σ197 86 36) := rfl; have hw2 : σ197 86 37 = (σ 86 37) := (hG199.1 86 37 (by decide)).trans ((hG178.1 86 37 (by decide)).trans ((hk159).trans rfl)); omega) (by have hw0 : σ197 86 39 = (σ197 86 39) := rfl; have hw1 : σ197 86 36 = (σ197 86 36) := rfl; have hw2 : σ197 86 37 = (σ 86 37) := (hG199.1 86 37 (by decide)).trans ((hG178.1 86 37 (by decide)).trans ((hk159).trans rfl)); omega)
        · skip
          refine qr_iload_n 24 rfl (qm_ge _ _ _) rfl ?_
          refine qr_if_eq 31 27 rfl rfl rfl hv190 (fun h205 => ?_) (fun h205 => ?_)
          · skip
            refine qr_iconst 32 rfl rfl ?_
            refine qr_istore_n _ 33 rfl (by decide) rfl rfl ?_
            refine qr_goto 5 rfl rfl ?_
            exact ih167 _ 0 σ197 (by omega) (qm_gk (qm_gk g152 (by decide) (Or.inl (by decide))) (by decide) (Or.inr rfl)) (qm_ge _ _ _) (by decide) hI198 hF200 ((hG199.1 86 37 (by decide)).trans ((hG178.1 86 37 (by decide)).trans ((hk159).trans rfl))) (by have hw0 : σ197 86 39 = (σ197 86 39) := rfl; have hw1 : σ197 86 36 = (σ197 86 36) := rfl; have hw2 : σ197 86 37 = (σ 86 37) := (hG199.1 86 37 (by decide)).trans ((hG178.1 86 37 (by decide)).trans ((hk159).trans rfl)); omega) (by have hw0 : σ197 86 39 = (σ197 86 39) := rfl; have hw1 : σ197 86 36 = (σ197 86 36) := rfl; have hw2 : σ197 86 37 = (σ 86 37) := (hG199.1 86 37 (by decide)).trans ((hG178.1 86 37 (by decide)).trans ((hk159).trans rfl)); omega) (by have hw0 : σ197 86 39 = (σ197 86 39) := rfl; have hw1 : σ197 86 36 = (σ197 86 36) := rfl; have hw2 : σ197 86 37 = (σ 86 37) := (hG199.1 86 37 (by decide)).trans ((hG178.1 86 37 (by decide)).trans ((hk159).trans rfl)); omega) (by have hw0 : σ197 86 39 = (σ197 86 39) := rfl; have hw1 : σ197 86 36 = (σ197 86 36) := rfl; have hw2 : σ197 86 37 = (σ 86 37) := (hG199.1 86 37 (by decide)).trans ((hG178.1 86 37 (by decide)).trans ((hk159).trans rfl)); omega) (by have hw0 : σ197 86 39 = (σ197 86 39) := rfl; have hw1 : σ197 86 36 = (σ197 86 36) := rfl; have hw2 : σ197 86 37 = (σ 86 37) := (hG199.1 86 37 (by decide)).trans ((hG178.1 86 37 (by decide)).trans ((hk159).trans rfl)); omega)
          · skip
            refine qr_iconst 28 rfl rfl ?_
            refine qr_goto 32 rfl rfl ?_
            refine qr_istore_n _ 33 rfl (by decide) rfl rfl ?_
            refine qr_goto 5 rfl rfl ?_
            exact ih167 _ 1 σ197 (by omega) (qm_gk (qm_gk g152 (by decide) (Or.inl (by decide))) (by decide) (Or.inr rfl)) (qm_ge _ _ _) (by decide) hI198 hF200 ((hG199.1 86 37 (by decide)).trans ((hG178.1 86 37 (by decide)).trans ((hk159).trans rfl))) (by have hw0 : σ197 86 39 = (σ197 86 39) := rfl; have hw1 : σ197 86 36 = (σ197 86 36) := rfl; have hw2 : σ197 86 37 = (σ 86 37) := (hG199.1 86 37 (by decide)).trans ((hG178.1 86 37 (by decide)).trans ((hk159).trans rfl)); omega) (by have hw0 : σ197 86 39 = (σ197 86 39) := rfl; have hw1 : σ197 86 36 = (σ197 86 36) := rfl; have hw2 : σ197 86 37 = (σ 86 37) := (hG199.1 86 37 (by decide)).trans ((hG178.1 86 37 (by decide)).trans ((hk159).trans rfl)); omega) (by have hw0 : σ197 86 39 = (σ197 86 39) := rfl; have hw1 : σ197 86 36 = (σ197 86 36) := rfl; have hw2 : σ197 86 37 = (σ 86 37) := (hG199.1 86 37 (by decide)).trans ((hG178.1 86 37 (by decide)).trans ((hk159).trans rfl)); omega) (by have hw0 : σ197 86 39 = (σ197 86 39) := rfl; have hw1 : σ197 86 36 = (σ197 86 36) := rfl; have hw2 : σ197 86 37 = (σ 86 37) := (hG199.1 86 37 (by decide)).trans ((hG178.1 86 37 (by decide)).trans ((hk159).trans rfl)); omega) (by have hw0 : σ197 86 39 = (σ197 86 39) := rfl; have hw1 : σ197 86 36 = (σ197 86 36) := rfl; have hw2 : σ197 86 37 = (σ 86 37) := (hG199.1 86 37 (by decide)).trans ((hG178.1 86 37 (by decide)).trans ((hk159).trans rfl)); omega)
  exact hL166 ((((120 - σ9 86 36).toNat : Int) + 1 : Int)).toNat _ v4 σ9 (by omega) rfl rfl hv4 hI10 hF12 ((hG11.1 86 37 (by decide)).trans rfl) (by have hw0 : σ9 86 39 = (σ9 86 39) := rfl; have hw1 : σ9 86 36 = (σ9 86 36) := rfl; have hw2 : σ9 86 37 = (σ 86 37) := (hG11.1 86 37 (by decide)).trans rfl; omega) (by have hw0 : σ9 86 39 = (σ9 86 39) := rfl; have hw1 : σ9 86 36 = (σ9 86 36) := rfl; have hw2 : σ9 86 37 = (σ 86 37) := (hG11.1 86 37 (by decide)).trans rfl; omega) (by have hw0 : σ9 86 39 = (σ9 86 39) := rfl; have hw1 : σ9 86 36 = (σ9 86 36) := rfl; have hw2 : σ9 86 37 = (σ 86 37) := (hG11.1 86 37 (by decide)).trans rfl; omega) (by have hw0 : σ9 86 39 = (σ9 86 39) := rfl; have hw1 : σ9 86 36 = (σ9 86 36) := rfl; have hw2 : σ9 86 37 = (σ 86 37) := (hG11.1 86 37 (by decide)).trans rfl; omega) (by have hw0 : σ9 86 39 = (σ9 86 39) := rfl; have hw1 : σ9 86 36 = (σ9 86 36) := rfl; have hw2 : σ9 86 37 = (σ 86 37) := (hG11.1 86 37 (by decide)).trans rfl; omega)

set_option maxHeartbeats 4000000 in
set_option maxRecDepth 20000 in
/-- OneRoofModel.workOut -/
theorem sf_213_86 {L : Nat} {xs : Nat → Int} {vb : Bool} {d : Nat} {σ α : Nat → Nat → Int} {κ : Nat → Option Nat} {ρ : Nat} {x1 : Int} {x2 : Int} (hI : qI σ α κ ρ) (r1 : (-1) ≤ x1 ∧ x1 ≤ 120) (r2 : 0 ≤ x2 ∧ x2 ≤ 120) : qm_T (qe L xs vb) (d + 44) 213 [.ref 86, .int (qz x1), .int (qz x2)] (qw σ α κ ρ) (fun r w' => ∃ σ', w' = qw σ' α κ ρ ∧ qI σ' α κ ρ ∧ qFr [(86, 35), (86, 36), (86, 37), (86, 38), (86, 39)] [] σ α σ' α ∧ ∃ v : Int, r = some (.int (qz v)) ∧ ((-2147483648) ≤ v ∧ v ≤ 2147483647)) := by
  refine qr_start (d := d + 43) qv_e213 (Nat.le_of_ble_eq_true rfl) ?_
  show qr_W (qe L xs vb) (d + 43) qx_e213 _ (0, [(0, .ref 86), (1, .int (qz x1)), (2, .int (qz x2))], [], _, 0, 0)
  have hF0 := qFr_rf [(86, 35), (86, 36), (86, 37), (86, 38), (86, 39)] [] σ α
  refine qr_aload_n 1 rfl rfl rfl ?_
  refine qr_iload_n 2 rfl rfl rfl ?_
  refine qr_put 5 rfl (by decide) rfl (Nat.le_of_ble_eq_true rfl) (Nat.le_of_ble_eq_true rfl) (Or.inl rfl) (qr_fitI rfl _) rfl ?_
  refine qy_wS (qw_s σ 86 35 x1) rfl (fun σ1 e2 => ?_)
  have hI3 : qI σ1 α κ ρ := by rw [e2]; exact qI_s hI 86 35 rfl (show (-1) ≤ x1 ∧ x1 ≤ 120 by omega)
  have hF4 : qFr [(86, 35), (86, 36), (86, 37), (86, 38), (86, 39)] [] σ α σ1 α := by rw [e2]; exact qFr_s hF0 86 35 _ (by decide)
  refine qr_aload_n 6 rfl rfl rfl ?_
  refine qr_iconst 7 rfl rfl ?_
  refine qr_put 10 rfl (by decide) rfl (Nat.le_of_ble_eq_true rfl) (Nat.le_of_ble_eq_true rfl) (Or.inl rfl) (qr_fitI rfl _) rfl ?_
  refine qy_wS (qw_s σ1 86 36 0) rfl (fun σ5 e6 => ?_)
  have hI7 : qI σ5 α κ ρ := by rw [e6]; exact qI_s hI3 86 36 rfl (show 0 ≤ 0 ∧ 0 ≤ 120 by omega)
  have hF8 : qFr [(86, 35), (86, 36), (86, 37), (86, 38), (86, 39)] [] σ α σ5 α := by rw [e6]; exact qFr_s hF4 86 36 _ (by decide)
  refine qr_aload_n 11 rfl rfl rfl ?_
  refine qr_iload_n 12 rfl rfl rfl ?_
  refine qr_put 15 rfl (by decide) rfl (Nat.le_of_ble_eq_true rfl) (Nat.le_of_ble_eq_true rfl) (Or.inl rfl) (qr_fitI rfl _) rfl ?_
  refine qy_wS (qw_s σ5 86 37 x2) rfl (fun σ9 e10 => ?_)
  have hI11 : qI σ9 α κ ρ := by rw [e10]; exact qI_s hI7 86 37 rfl (show 0 ≤ x2 ∧ x2 ≤ 120 by omega)
  have hF12 : qFr [(86, 35), (86, 36), (86, 37), (86, 38), (86, 39)] [] σ α σ9 α := by rw [e10]; exact qFr_s hF8 86 37 _ (by decide)
  refine qr_aload_n 16 rfl rfl rfl ?_
  refine qr_iconst 17 rfl rfl ?_
  refine qr_put 20 rfl (by decide) rfl (Nat.le_of_ble_eq_true rfl) (Nat.le_of_ble_eq_true rfl) (Or.inl rfl) (qr_fitI rfl _) rfl ?_
  refine qy_wS (qw_s σ9 86 38 (-1)) rfl (fun σ13 e14 => ?_)
  have hI15 : qI σ13 α κ ρ := by rw [e14]; exact qI_s hI11 86 38 rfl (show (-1) ≤ (-1) ∧ (-1) ≤ 120 by omega)
  have hF16 : qFr [(86, 35), (86, 36), (86, 37), (86, 38), (86, 39)] [] σ α σ13 α := by rw [e14]; exact qFr_s hF12 86 38 _ (by decide)
  refine qr_aload_n 21 rfl rfl rfl ?_
  refine qr_iconst 22 rfl rfl ?_
  refine qr_put 25 rfl (by decide) rfl (Nat.le_of_ble_eq_true rfl) (Nat.le_of_ble_eq_true rfl) (Or.inl rfl) (qr_fitI rfl _) rfl ?_
  refine qy_wS (qw_s σ13 86 39 0) rfl (fun σ17 e18 => ?_)
  have hI19 : qI σ17 α κ ρ := by rw [e18]; exact qI_s hI15 86 39 rfl (show 0 ≤ 0 ∧ 0 ≤ 6 by omega)
  have hF20 : qFr [(86, 35), (86, 36), (86, 37), (86, 38), (86, 39)] [] σ α σ17 α := by rw [e18]; exact qFr_s hF16 86 39 _ (by decide)
  refine qr_iconst 26 rfl rfl ?_
  refine qr_istore_n _ 27 rfl (by decide) rfl rfl ?_
  refine qr_iconst 28 rfl rfl ?_
  refine qr_istore _ 30 rfl (by decide) rfl rfl ?_
  refine qr_iconst 31 rfl rfl ?_
  refine qr_istore _ 33 rfl (by decide) rfl rfl ?_
  have hL812 : ∀ (n : Nat) (ls : qm_L) (u797 u799 u801 : Int) (σ802 : Nat → Nat → Int), 2 * ((120 - σ802 86 36).toNat : Int) + u801 < (n : Int) → qm_get ls 0 = some (.ref 86) → qm_get ls 3 = some (.int (qz u797)) → qm_get ls 4 = some (.int (qz u799)) → qm_get ls 5 = some (.int (qz u801)) → (0 ≤ u797 ∧ u797 ≤ 1) → ((-2147483648) ≤ u799 ∧ u799 ≤ 2147483647) → (0 ≤ u801 ∧ u801 ≤ 1) → qI σ802 α κ ρ → qFr [(86, 35), (86, 36), (86, 37), (86, 38), (86, 39)] [] σ α σ802 α → σ802 86 35 = x1 → σ802 86 37 = x2 → σ802 86 36 ≤ σ802 86 37 → qr_W (qe L xs vb) (d + 43) qx_e213 (fun r w' => ∃ σ', w' = qw σ' α κ ρ ∧ qI σ' α κ ρ ∧ qFr [(86, 35), (86, 36), (86, 37), (86, 38), (86, 39)] [] σ α σ' α ∧ ∃ v : Int, r = some (.int (qz v)) ∧ ((-2147483648) ≤ v ∧ v ≤ 2147483647)) (33, ls, [], qw σ802 α κ ρ, 0, 0) := by
    intro n
    induction n with
    | zero => intro ls u797 u799 u801 σ802 hm g795 g796 g798 g800 hf808 hf809 hf810 hI804 hF805 hk806 hk807 hx811; exact False.elim (by omega)
    | succ n ih813 =>
      intro ls u797 u799 u801 σ802 hm g795 g796 g798 g800 hf808 hf809 hf810 hI804 hF805 hk806 hk807 hx811
      have hs814 : 0 ≤ σ802 86 39 ∧ σ802 86 39 ≤ 6 := hI804.1 86 39
      have hs815 : 0 ≤ σ802 86 36 ∧ σ802 86 36 ≤ 120 := hI804.1 86 36
      have hs816 : 0 ≤ σ802 86 37 ∧ σ802 86 37 ≤ 120 := hI804.1 86 37
      refine qr_iload 35 rfl g800 rfl ?_
      refine qr_if_eq 107 38 rfl rfl rfl (qrg hf810 (by decide) (by decide)) (fun h817 => ?_) (fun h817 => ?_)
      · skip
        refine qr_aload_n 108 rfl g795 rfl ?_
        refine qr_get 111 rfl rfl rfl (by decide) rfl ?_
        have hs818 : (-1) ≤ σ802 86 38 ∧ σ802 86 38 ≤ 120 := hI804.1 86 38
        refine qr_if_ge 130 114 rfl rfl rfl (qrg hs818 (by decide) (by decide)) (fun h819 => ?_) (fun h819 => ?_)
        · skip
          refine qr_iload 132 rfl g798 rfl ?_
          refine qr_retI rfl rfl (by decide) (by decide) ?_
          exact ⟨_, rfl, hI804, hF805, u799, rfl, hf809⟩
        · skip
          refine qr_aload_n 115 rfl g795 rfl ?_
          refine qr_get 118 rfl rfl rfl (by decide) rfl ?_
          refine qr_aload_n 119 rfl g795 rfl ?_
          refine qr_get 122 rfl rfl rfl (by decide) rfl ?_
          refine qy_v x2 ((hk807).trans rfl) ?_
          refine qr_icmp_ge 130 125 rfl rfl rfl (by omega) (qrg r2 (by decide) (by decide)) (fun h820 => ?_) (fun h820 => ?_)
          · skip
            refine qr_iload 132 rfl g798 rfl ?_
            refine qr_retI rfl rfl (by decide) (by decide) ?_
            exact ⟨_, rfl, hI804, hF805, u799, rfl, hf809⟩
          · skip
            refine qr_aload_n 126 rfl g795 rfl ?_
            refine qr_callN 129 rfl rfl rfl (sf_221_86 (d := d + 42) hI804 ) ?_
            rintro _ _ ⟨σ822, rfl, hI823, hG824, v821, rfl, hv821⟩
            have hF825 : qFr [(86, 35), (86, 36), (86, 37), (86, 38), (86, 39)] [] σ α σ822 α := qFr_t hF805 hG824 (by decide) (by decide)
            show qr_W (qe L xs vb) (d + 43) qx_e213 _ (129, _, [.int (qz v821)], qw σ822 α κ ρ, 0, 0)
            refine qr_retI rfl rfl (by decide) (by decide) ?_
            exact ⟨_, rfl, hI823, hF825, v821, rfl, (qrg hv821 (by decide) (by decide))⟩
      · skip
        refine qr_aload_n 39 rfl g795 rfl ?_
        have hs826 : 0 ≤ σ802 86 36 ∧ σ802 86 36 ≤ 120 := hI804.1 86 36
        have hs827 : 0 ≤ σ802 86 37 ∧ σ802 86 37 ≤ 120 := hI804.1 86 37
        have hs828 : σ802 86 37 = x2 := (hk807).trans rfl
        have hs829 : 0 ≤ σ802 86 39 ∧ σ802 86 39 ≤ 6 := hI804.1 86 39
        refine qr_callN 42 rfl rfl rfl (sf_214_86o0 (d := d + 0) hI804 (by omega) (by omega)) ?_
        have hs832 : 0 ≤ σ802 86 36 ∧ σ802 86 36 ≤ 120 := hI804.1 86 36
        have hs833 : 0 ≤ σ802 86 37 ∧ σ802 86 37 ≤ 120 := hI804.1 86 37
        have hs834 : σ802 86 37 = x2 := (hk807).trans rfl
        have hs835 : 0 ≤ σ802 86 39 ∧ σ802 86 39 ≤ 6 := hI804.1 86 39
        rintro _ _ ⟨σ836, rfl, hI837, hG838, v830, rfl, hv830, hp831⟩
        have hF839 : qFr [(86, 35), (86, 36), (86, 37), (86, 38), (86, 39)] [] σ α σ836 α := qFr_t hF805 hG838 (by decide) (by decide)
        have hs840 : 0 ≤ σ836 86 36 ∧ σ836 86 36 ≤ 120 := hI837.1 86 36
        have hs841 : 0 ≤ σ836 86 37 ∧ σ836 86 37 ≤ 120 := hI837.1 86 37
        have hs842 : 0 ≤ σ836 86 39 ∧ σ836 86 39 ≤ 6 := hI837.1 86 39
        show qr_W (qe L xs vb) (d + 43) qx_e213 _ (42, _, [.int (qz v830)], qw σ836 α κ ρ, 0, 0)
        refine qr_istore _ 44 rfl (by decide) rfl rfl ?_
        refine qr_iconst 45 rfl rfl ?_
        refine qr_istore _ 47 rfl (by decide) rfl rfl ?_
        refine qr_aload_n 48 rfl (qm_gk (qm_gk g795 (by decide) (Or.inl (by decide))) (by decide) (Or.inl (by decide))) rfl ?_
        refine qr_bipush 50 rfl (by decide) rfl ?_
        refine qr_callN 53 rfl rfl rfl (sf_222_86t (d := d + 41) hI837 (by decide) (by omega)) ?_
        have hs845 : 0 ≤ σ836 86 36 ∧ σ836 86 36 ≤ 120 := hI837.1 86 36
        have hs846 : 0 ≤ σ836 86 37 ∧ σ836 86 37 ≤ 120 := hI837.1 86 37
        have hs847 : σ836 86 37 = x2 := (hG838.1 86 37 (by decide)).trans ((hk807).trans rfl)
        rintro _ _ ⟨σ848, rfl, hI849, hG850, v843, rfl, hv843, hp844⟩
        have hF851 : qFr [(86, 35), (86, 36), (86, 37), (86, 38), (86, 39)] [] σ α σ848 α := qFr_t hF839 hG850 (by decide) (by decide)
        have hs852 : 0 ≤ σ848 86 36 ∧ σ848 86 36 ≤ 120 := hI849.1 86 36
        show qr_W (qe L xs vb) (d + 43) qx_e213 _ (53, _, [.int (qz v843)], qw σ848 α κ ρ, 0, 0)
        refine qr_if_eq 74 56 rfl rfl rfl (qrg hv843 (by decide) (by decide)) (fun h853 => ?_) (fun h853 => ?_)
        · skip
          refine qr_aload_n 75 rfl (qm_gk (qm_gk g795 (by decide) (Or.inl (by decide))) (by decide) (Or.inl (by decide))) rfl ?_
          refine qr_get 78 rfl rfl rfl (by decide) rfl ?_
          have hs854 : (-1) ≤ σ848 86 38 ∧ σ848 86 38 ≤ 120 := hI849.1 86 38
          refine qr_if_ge 96 81 rfl rfl rfl (qrg hs854 (by decide) (by decide)) (fun h855 => ?_) (fun h855 => ?_)
          · skip
            refine qr_aload_n 97 rfl (qm_gk (qm_gk g795 (by decide) (Or.inl (by decide))) (by decide) (Or.inl (by decide))) rfl ?_
            refine qr_bipush 99 rfl (by decide) rfl ?_
            refine qr_callN 102 rfl rfl rfl (sf_222_86t (d := d + 41) hI849 (by decide) (by omega)) ?_
            have hs858 : 0 ≤ σ848 86 36 ∧ σ848 86 36 ≤ 120 := hI849.1 86 36
            have hs859 : 0 ≤ σ848 86 37 ∧ σ848 86 37 ≤ 120 := hI849.1 86 37
            have hs860 : σ848 86 37 = x2 := (hG850.1 86 37 (by decide)).trans ((hG838.1 86 37 (by decide)).trans ((hk807).trans rfl))
            rintro _ _ ⟨σ861, rfl, hI862, hG863, v856, rfl, hv856, hp857⟩
            have hF864 : qFr [(86, 35), (86, 36), (86, 37), (86, 38), (86, 39)] [] σ α σ861 α := qFr_t hF851 hG863 (by decide) (by decide)
            have hs865 : 0 ≤ σ861 86 36 ∧ σ861 86 36 ≤ 120 := hI862.1 86 36
            show qr_W (qe L xs vb) (d + 43) qx_e213 _ (102, _, [.int (qz v856)], qw σ861 α κ ρ, 0, 0)
            refine qr_istore _ 104 rfl (by decide) rfl rfl ?_
            refine qr_goto 33 rfl rfl ?_
            exact ih813 _ u797 u799 v856 σ861 (by omega) (qm_gk (qm_gk (qm_gk g795 (by decide) (Or.inl (by decide))) (by decide) (Or.inl (by decide))) (by decide) (Or.inl (by decide))) (qm_gk (qm_gk (qm_gk g796 (by decide) (Or.inl (by decide))) (by decide) (Or.inl (by decide))) (by decide) (Or.inl (by decide))) (qm_gk (qm_gk (qm_gk g798 (by decide) (Or.inl (by decide))) (by decide) (Or.inl (by decide))) (by decide) (Or.inr rfl)) (qm_ge _ _ _) hf808 hf809 hv856 hI862 hF864 ((hG863.1 86 35 (by decide)).trans ((hG850.1 86 35 (by decide)).trans ((hG838.1 86 35 (by decide)).trans ((hk806).trans rfl)))) ((hG863.1 86 37 (by decide)).trans ((hG850.1 86 37 (by decide)).trans ((hG838.1 86 37 (by decide)).trans ((hk807).trans rfl)))) (by have hw0 : σ861 86 39 = (σ836 86 39) := (hG863.1 86 39 (by decide)).trans ((hG850.1 86 39 (by decide)).trans rfl); have hw1 : σ861 86 36 = (σ861 86 36) := rfl; have hw2 : σ861 86 37 = x2 := (hG863.1 86 37 (by decide)).trans ((hG850.1 86 37 (by decide)).trans ((hG838.1 86 37 (by decide)).trans ((hk807).trans rfl))); omega)
          · skip
            refine qr_iload 83 rfl (qm_ge _ _ _) rfl ?_
            refine qr_if_eq 96 86 rfl rfl rfl (by decide) (fun h => False.elim (by omega)) (fun h866 => ?_)
            refine qr_iload_n 87 rfl (qm_gk (qm_gk g796 (by decide) (Or.inl (by decide))) (by decide) (Or.inl (by decide))) rfl ?_
            refine qr_if_ne 96 90 rfl rfl rfl (qrg hf808 (by decide) (by decide)) (fun h867 => ?_) (fun h867 => ?_)
            · skip
              refine qr_aload_n 97 rfl (qm_gk (qm_gk g795 (by decide) (Or.inl (by decide))) (by decide) (Or.inl (by decide))) rfl ?_
              refine qr_bipush 99 rfl (by decide) rfl ?_
              refine qr_callN 102 rfl rfl rfl (sf_222_86t (d := d + 41) hI849 (by decide) (by omega)) ?_
              have hs870 : 0 ≤ σ848 86 36 ∧ σ848 86 36 ≤ 120 := hI849.1 86 36
              have hs871 : 0 ≤ σ848 86 37 ∧ σ848 86 37 ≤ 120 := hI849.1 86 37
              have hs872 : σ848 86 37 = x2 := (hG850.1 86 37 (by decide)).trans ((hG838.1 86 37 (by decide)).trans ((hk807).trans rfl))
              rintro _ _ ⟨σ873, rfl, hI874, hG875, v868, rfl, hv868, hp869⟩
              have hF876 : qFr [(86, 35), (86, 36), (86, 37), (86, 38), (86, 39)] [] σ α σ873 α := qFr_t hF851 hG875 (by decide) (by decide)
              have hs877 : 0 ≤ σ873 86 36 ∧ σ873 86 36 ≤ 120 := hI874.1 86 36
              show qr_W (qe L xs vb) (d + 43) qx_e213 _ (102, _, [.int (qz v868)], qw σ873 α κ ρ, 0, 0)
              refine qr_istore _ 104 rfl (by decide) rfl rfl ?_
              refine qr_goto 33 rfl rfl ?_
              exact ih813 _ u797 u799 v868 σ873 (by omega) (qm_gk (qm_gk (qm_gk g795 (by decide) (Or.inl (by decide))) (by decide) (Or.inl (by decide))) (by decide) (Or.inl (by decide))) (qm_gk (qm_gk (qm_gk g796 (by decide) (Or.inl (by decide))) (by decide) (Or.inl (by decide))) (by decide) (Or.inl (by decide))) (qm_gk (qm_gk (qm_gk g798 (by decide) (Or.inl (by decide))) (by decide) (Or.inl (by decide))) (by decide) (Or.inr rfl)) (qm_ge _ _ _) hf808 hf809 hv868 hI874 hF876 ((hG875.1 86 35 (by decide)).trans ((hG850.1 86 35 (by decide)).trans ((hG838.1 86 35 (by decide)).trans ((hk806).trans rfl)))) ((hG875.1 86 37 (by decide)).trans ((hG850.1 86 37 (by decide)).trans ((hG838.1 86 37 (by decide)).trans ((hk807).trans rfl)))) (by have hw0 : σ873 86 39 = (σ836 86 39) := (hG875.1 86 39 (by decide)).trans ((hG850.1 86 39 (by decide)).trans rfl); have hw1 : σ873 86 36 = (σ873 86 36) := rfl; have hw2 : σ873 86 37 = x2 := (hG875.1 86 37 (by decide)).trans ((hG850.1 86 37 (by decide)).trans ((hG838.1 86 37 (by decide)).trans ((hk807).trans rfl))); omega)
            · skip
              refine qr_iconst 91 rfl rfl ?_
              refine qr_istore_n _ 92 rfl (by decide) rfl rfl ?_
              refine qr_iload 94 rfl (qm_gk (qm_gk (qm_ge _ _ _) (by decide) (Or.inr rfl)) (by decide) (Or.inl (by decide))) rfl ?_
              refine qr_istore _ 96 rfl (by decide) rfl rfl ?_
              refine qr_aload_n 97 rfl (qm_gk (qm_gk (qm_gk (qm_gk g795 (by decide) (Or.inl (by decide))) (by decide) (Or.inl (by decide))) (by decide) (Or.inl (by decide))) (by decide) (Or.inl (by decide))) rfl ?_
              refine qr_bipush 99 rfl (by decide) rfl ?_
              refine qr_callN 102 rfl rfl rfl (sf_222_86t (d := d + 41) hI849 (by decide) (by omega)) ?_
              have hs880 : 0 ≤ σ848 86 36 ∧ σ848 86 36 ≤ 120 := hI849.1 86 36
              have hs881 : 0 ≤ σ848 86 37 ∧ σ848 86 37 ≤ 120 := hI849.1 86 37
              have hs882 : σ848 86 37 = x2 := (hG850.1 86 37 (by decide)).trans ((hG838.1 86 37 (by decide)).trans ((hk807).trans rfl))
              rintro _ _ ⟨σ883, rfl, hI884, hG885, v878, rfl, hv878, hp879⟩
              have hF886 : qFr [(86, 35), (86, 36), (86, 37), (86, 38), (86, 39)] [] σ α σ883 α := qFr_t hF851 hG885 (by decide) (by decide)
              have hs887 : 0 ≤ σ883 86 36 ∧ σ883 86 36 ≤ 120 := hI884.1 86 36
              show qr_W (qe L xs vb) (d + 43) qx_e213 _ (102, _, [.int (qz v878)], qw σ883 α κ ρ, 0, 0)
              refine qr_istore _ 104 rfl (by decide) rfl rfl ?_
              refine qr_goto 33 rfl rfl ?_
              exact ih813 _ 1 v830 v878 σ883 (by omega) (qm_gk (qm_gk (qm_gk (qm_gk (qm_gk g795 (by decide) (Or.inl (by decide))) (by decide) (Or.inl (by decide))) (by decide) (Or.inl (by decide))) (by decide) (Or.inl (by decide))) (by decide) (Or.inl (by decide))) (qm_gk (qm_gk (qm_ge _ _ _) (by decide) (Or.inr rfl)) (by decide) (Or.inl (by decide))) (qm_gk (qm_ge _ _ _) (by decide) (Or.inr rfl)) (qm_ge _ _ _) (by decide) hv830 hv878 hI884 hF886 ((hG885.1 86 35 (by decide)).trans ((hG850.1 86 35 (by decide)).trans ((hG838.1 86 35 (by decide)).trans ((hk806).trans rfl)))) ((hG885.1 86 37 (by decide)).trans ((hG850.1 86 37 (by decide)).trans ((hG838.1 86 37 (by decide)).trans ((hk807).trans rfl)))) (by have hw0 : σ883 86 39 = (σ836 86 39) := (hG885.1 86 39 (by decide)).trans ((hG850.1 86 39 (by decide)).trans rfl); have hw1 : σ883 86 36 = (σ883 86 36) := rfl; have hw2 : σ883 86 37 = x2 := (hG885.1 86 37 (by decide)).trans ((hG850.1 86 37 (by decide)).trans ((hG838.1 86 37 (by decide)).trans ((hk807).trans rfl))); omega)
        · skip
          refine qr_iload 58 rfl (qm_gk (qm_ge _ _ _) (by decide) (Or.inr rfl)) rfl ?_
          refine qr_if_eq 65 61 rfl rfl rfl hv830 (fun h888 => ?_) (fun h888 => ?_)
          · skip
            refine qr_iconst 66 rfl rfl ?_
            refine qr_istore _ 68 rfl (by decide) rfl rfl ?_
            refine qr_aload_n 69 rfl (qm_gk (qm_gk (qm_gk g795 (by decide) (Or.inl (by decide))) (by decide) (Or.inl (by decide))) (by decide) (Or.inl (by decide))) rfl ?_
            have hs889 : 0 ≤ σ848 86 36 ∧ σ848 86 36 ≤ 120 := hI849.1 86 36
            have hs890 : 0 ≤ σ848 86 37 ∧ σ848 86 37 ≤ 120 := hI849.1 86 37
            have hs891 : σ848 86 37 = x2 := (hG850.1 86 37 (by decide)).trans ((hG838.1 86 37 (by decide)).trans ((hk807).trans rfl))
            have hs892 : 0 ≤ σ848 86 39 ∧ σ848 86 39 ≤ 6 := hI849.1 86 39
            have hs893 : σ848 86 39 = (σ836 86 39) := (hG850.1 86 39 (by decide)).trans rfl
            refine qr_callN 72 rfl rfl rfl (sf_214_86o0 (d := d + 0) hI849 (by omega) (by omega)) ?_
            have hs896 : 0 ≤ σ848 86 36 ∧ σ848 86 36 ≤ 120 := hI849.1 86 36
            have hs897 : 0 ≤ σ848 86 37 ∧ σ848 86 37 ≤ 120 := hI849.1 86 37
            have hs898 : σ848 86 37 = x2 := (hG850.1 86 37 (by decide)).trans ((hG838.1 86 37 (by decide)).trans ((hk807).trans rfl))
            have hs899 : 0 ≤ σ848 86 39 ∧ σ848 86 39 ≤ 6 := hI849.1 86 39
            have hs900 : σ848 86 39 = (σ836 86 39) := (hG850.1 86 39 (by decide)).trans rfl
            rintro _ _ ⟨σ901, rfl, hI902, hG903, v894, rfl, hv894, hp895⟩
            have hF904 : qFr [(86, 35), (86, 36), (86, 37), (86, 38), (86, 39)] [] σ α σ901 α := qFr_t hF851 hG903 (by decide) (by decide)
            have hs905 : 0 ≤ σ901 86 36 ∧ σ901 86 36 ≤ 120 := hI902.1 86 36
            have hs906 : 0 ≤ σ901 86 37 ∧ σ901 86 37 ≤ 120 := hI902.1 86 37
            have hs907 : 0 ≤ σ901 86 39 ∧ σ901 86 39 ≤ 6 := hI902.1 86 39
            show qr_W (qe L xs vb) (d + 43) qx_e213 _ (72, _, [.int (qz v894)], qw σ901 α κ ρ, 0, 0)
            refine qr_istore _ 74 rfl (by decide) rfl rfl ?_
            refine qr_aload_n 75 rfl (qm_gk (qm_gk (qm_gk (qm_gk g795 (by decide) (Or.inl (by decide))) (by decide) (Or.inl (by decide))) (by decide) (Or.inl (by decide))) (by decide) (Or.inl (by decide))) rfl ?_
            refine qr_get 78 rfl rfl rfl (by decide) rfl ?_
            have hs908 : (-1) ≤ σ901 86 38 ∧ σ901 86 38 ≤ 120 := hI902.1 86 38
            refine qr_if_ge 96 81 rfl rfl rfl (qrg hs908 (by decide) (by decide)) (fun h909 => ?_) (fun h909 => ?_)
            · skip
              refine qr_aload_n 97 rfl (qm_gk (qm_gk (qm_gk (qm_gk g795 (by decide) (Or.inl (by decide))) (by decide) (Or.inl (by decide))) (by decide) (Or.inl (by decide))) (by decide) (Or.inl (by decide))) rfl ?_
              refine qr_bipush 99 rfl (by decide) rfl ?_
              refine qr_callN 102 rfl rfl rfl (sf_222_86t (d := d + 41) hI902 (by decide) (by omega)) ?_
              have hs912 : 0 ≤ σ901 86 36 ∧ σ901 86 36 ≤ 120 := hI902.1 86 36
              have hs913 : 0 ≤ σ901 86 37 ∧ σ901 86 37 ≤ 120 := hI902.1 86 37
              have hs914 : σ901 86 37 = x2 := (hG903.1 86 37 (by decide)).trans ((hG850.1 86 37 (by decide)).trans ((hG838.1 86 37 (by decide)).trans ((hk807).trans rfl)))
              rintro _ _ ⟨σ915, rfl, hI916, hG917, v910, rfl, hv910, hp911⟩
              have hF918 : qFr [(86, 35), (86, 36), (86, 37), (86, 38), (86, 39)] [] σ α σ915 α := qFr_t hF904 hG917 (by decide) (by decide)
              have hs919 : 0 ≤ σ915 86 36 ∧ σ915 86 36 ≤ 120 := hI916.1 86 36
              show qr_W (qe L xs vb) (d + 43) qx_e213 _ (102, _, [.int (qz v910)], qw σ915 α κ ρ, 0, 0)
              refine qr_istore _ 104 rfl (by decide) rfl rfl ?_
              refine qr_goto 33 rfl rfl ?_
              exact ih813 _ u797 u799 v910 σ915 (by omega) (qm_gk (qm_gk (qm_gk (qm_gk (qm_gk g795 (by decide) (Or.inl (by decide))) (by decide) (Or.inl (by decide))) (by decide) (Or.inl (by decide))) (by decide) (Or.inl (by decide))) (by decide) (Or.inl (by decide))) (qm_gk (qm_gk (qm_gk (qm_gk (qm_gk g796 (by decide) (Or.inl (by decide))) (by decide) (Or.inl (by decide))) (by decide) (Or.inl (by decide))) (by decide) (Or.inl (by decide))) (by decide) (Or.inl (by decide))) (qm_gk (qm_gk (qm_gk (qm_gk (qm_gk g798 (by decide) (Or.inl (by decide))) (by decide) (Or.inl (by decide))) (by decide) (Or.inl (by decide))) (by decide) (Or.inl (by decide))) (by decide) (Or.inr rfl)) (qm_ge _ _ _) hf808 hf809 hv910 hI916 hF918 ((hG917.1 86 35 (by decide)).trans ((hG903.1 86 35 (by decide)).trans ((hG850.1 86 35 (by decide)).trans ((hG838.1 86 35 (by decide)).trans ((hk806).trans rfl))))) ((hG917.1 86 37 (by decide)).trans ((hG903.1 86 37 (by decide)).trans ((hG850.1 86 37 (by decide)).trans ((hG838.1 86 37 (by decide)).trans ((hk807).trans rfl))))) (by have hw0 : σ915 86 39 = (σ901 86 39) := (hG917.1 86 39 (by decide)).trans rfl; have hw1 : σ915 86 36 = (σ915 86 36) := rfl; have hw2 : σ915 86 37 = x2 := (hG917.1 86 37 (by decide)).trans ((hG903.1 86 37 (by decide)).trans ((hG850.1 86 37 (by decide)).trans ((hG838.1 86 37 (by decide)).trans ((hk807).trans rfl)))); omega)
            · skip
              refine qr_iload 83 rfl (qm_gk (qm_ge _ _ _) (by decide) (Or.inl (by decide))) rfl ?_
              refine qr_if_eq 96 86 rfl rfl rfl (by decide) (fun h920 => ?_) (fun h => False.elim (by omega))
              refine qr_aload_n 97 rfl (qm_gk (qm_gk (qm_gk (qm_gk g795 (by decide) (Or.inl (by decide))) (by decide) (Or.inl (by decide))) (by decide) (Or.inl (by decide))) (by decide) (Or.inl (by decide))) rfl ?_
              refine qr_bipush 99 rfl (by decide) rfl ?_
              refine qr_callN 102 rfl rfl rfl (sf_222_86t (d := d + 41) hI902 (by decide) (by omega)) ?_
              have hs923 : 0 ≤ σ901 86 36 ∧ σ901 86 36 ≤ 120 := hI902.1 86 36
              have hs924 : 0 ≤ σ901 86 37 ∧ σ901 86 37 ≤ 120 := hI902.1 86 37
              have hs925 : σ901 86 37 = x2 := (hG903.1 86 37 (by decide)).trans ((hG850.1 86 37 (by decide)).trans ((hG838.1 86 37 (by decide)).trans ((hk807).trans rfl)))
              rintro _ _ ⟨σ926, rfl, hI927, hG928, v921, rfl, hv921, hp922⟩
              have hF929 : qFr [(86, 35), (86, 36), (86, 37), (86, 38), (86, 39)] [] σ α σ926 α := qFr_t hF904 hG928 (by decide) (by decide)
              have hs930 : 0 ≤ σ926 86 36 ∧ σ926 86 36 ≤ 120 := hI927.1 86 36
              show qr_W (qe L xs vb) (d + 43) qx_e213 _ (102, _, [.int (qz v921)], qw σ926 α κ ρ, 0, 0)
              refine qr_istore _ 104 rfl (by decide) rfl rfl ?_
              refine qr_goto 33 rfl rfl ?_
              exact ih813 _ u797 u799 v921 σ926 (by omega) (qm_gk (qm_gk (qm_gk (qm_gk (qm_gk g795 (by decide) (Or.inl (by decide))) (by decide) (Or.inl (by decide))) (by decide) (Or.inl (by decide))) (by decide) (Or.inl (by decide))) (by decide) (Or.inl (by decide))) (qm_gk (qm_gk (qm_gk (qm_gk (qm_gk g796 (by decide) (Or.inl (by decide))) (by decide) (Or.inl (by decide))) (by decide) (Or.inl (by decide))) (by decide) (Or.inl (by decide))) (by decide) (Or.inl (by decide))) (qm_gk (qm_gk (qm_gk (qm_gk (qm_gk g798 (by decide) (Or.inl (by decide))) (by decide) (Or.inl (by decide))) (by decide) (Or.inl (by decide))) (by decide) (Or.inl (by decide))) (by decide) (Or.inr rfl)) (qm_ge _ _ _) hf808 hf809 hv921 hI927 hF929 ((hG928.1 86 35 (by decide)).trans ((hG903.1 86 35 (by decide)).trans ((hG850.1 86 35 (by decide)).trans ((hG838.1 86 35 (by decide)).trans ((hk806).trans rfl))))) ((hG928.1 86 37 (by decide)).trans ((hG903.1 86 37 (by decide)).trans ((hG850.1 86 37 (by decide)).trans ((hG838.1 86 37 (by decide)).trans ((hk807).trans rfl))))) (by have hw0 : σ926 86 39 = (σ901 86 39) := (hG928.1 86 39 (by decide)).trans rfl; have hw1 : σ926 86 36 = (σ926 86 36) := rfl; have hw2 : σ926 86 37 = x2 := (hG928.1 86 37 (by decide)).trans ((hG903.1 86 37 (by decide)).trans ((hG850.1 86 37 (by decide)).trans ((hG838.1 86 37 (by decide)).trans ((hk807).trans rfl)))); omega)
          · skip
            refine qr_iconst 62 rfl rfl ?_
            refine qr_goto 66 rfl rfl ?_
            refine qr_istore _ 68 rfl (by decide) rfl rfl ?_
            refine qr_aload_n 69 rfl (qm_gk (qm_gk (qm_gk g795 (by decide) (Or.inl (by decide))) (by decide) (Or.inl (by decide))) (by decide) (Or.inl (by decide))) rfl ?_
            have hs931 : 0 ≤ σ848 86 36 ∧ σ848 86 36 ≤ 120 := hI849.1 86 36
            have hs932 : 0 ≤ σ848 86 37 ∧ σ848 86 37 ≤ 120 := hI849.1 86 37
            have hs933 : σ848 86 37 = x2 := (hG850.1 86 37 (by decide)).trans ((hG838.1 86 37 (by decide)).trans ((hk807).trans rfl))
            have hs934 : 0 ≤ σ848 86 39 ∧ σ848 86 39 ≤ 6 := hI849.1 86 39
            have hs935 : σ848 86 39 = (σ836 86 39) := (hG850.1 86 39 (by decide)).trans rfl
            refine qr_callN 72 rfl rfl rfl (sf_214_86o0 (d := d + 0) hI849 (by omega) (by omega)) ?_
            have hs938 : 0 ≤ σ848 86 36 ∧ σ848 86 36 ≤ 120 := hI849.1 86 36
            have hs939 : 0 ≤ σ848 86 37 ∧ σ848 86 37 ≤ 120 := hI849.1 86 37
            have hs940 : σ848 86 37 = x2 := (hG850.1 86 37 (by decide)).trans ((hG838.1 86 37 (by decide)).trans ((hk807).trans rfl))
            have hs941 : 0 ≤ σ848 86 39 ∧ σ848 86 39 ≤ 6 := hI849.1 86 39
            have hs942 : σ848 86 39 = (σ836 86 39) := (hG850.1 86 39 (by decide)).trans rfl
            rintro _ _ ⟨σ943, rfl, hI944, hG945, v936, rfl, hv936, hp937⟩
            have hF946 : qFr [(86, 35), (86, 36), (86, 37), (86, 38), (86, 39)] [] σ α σ943 α := qFr_t hF851 hG945 (by decide) (by decide)
            have hs947 : 0 ≤ σ943 86 36 ∧ σ943 86 36 ≤ 120 := hI944.1 86 36
            have hs948 : 0 ≤ σ943 86 37 ∧ σ943 86 37 ≤ 120 := hI944.1 86 37
            have hs949 : 0 ≤ σ943 86 39 ∧ σ943 86 39 ≤ 6 := hI944.1 86 39
            show qr_W (qe L xs vb) (d + 43) qx_e213 _ (72, _, [.int (qz v936)], qw σ943 α κ ρ, 0, 0)
            refine qr_istore _ 74 rfl (by decide) rfl rfl ?_
            refine qr_aload_n 75 rfl (qm_gk (qm_gk (qm_gk (qm_gk g795 (by decide) (Or.inl (by decide))) (by decide) (Or.inl (by decide))) (by decide) (Or.inl (by decide))) (by decide) (Or.inl (by decide))) rfl ?_
            refine qr_get 78 rfl rfl rfl (by decide) rfl ?_
            have hs950 : (-1) ≤ σ943 86 38 ∧ σ943 86 38 ≤ 120 := hI944.1 86 38
            refine qr_if_ge 96 81 rfl rfl rfl (qrg hs950 (by decide) (by decide)) (fun h951 => ?_) (fun h951 => ?_)
            · skip
              refine qr_aload_n 97 rfl (qm_gk (qm_gk (qm_gk (qm_gk g795 (by decide) (Or.inl (by decide))) (by decide) (Or.inl (by decide))) (by decide) (Or.inl (by decide))) (by decide) (Or.inl (by decide))) rfl ?_
              refine qr_bipush 99 rfl (by decide) rfl ?_
              refine qr_callN 102 rfl rfl rfl (sf_222_86t (d := d + 41) hI944 (by decide) (by omega)) ?_
              have hs954 : 0 ≤ σ943 86 36 ∧ σ943 86 36 ≤ 120 := hI944.1 86 36
              have hs955 : 0 ≤ σ943 86 37 ∧ σ943 86 37 ≤ 120 := hI944.1 86 37
              have hs956 : σ943 86 37 = x2 := (hG945.1 86 37 (by decide)).trans ((hG850.1 86 37 (by decide)).trans ((hG838.1 86 37 (by decide)).trans ((hk807).trans rfl)))
              rintro _ _ ⟨σ957, rfl, hI958, hG959, v952, rfl, hv952, hp953⟩
              have hF960 : qFr [(86, 35), (86, 36), (86, 37), (86, 38), (86, 39)] [] σ α σ957 α := qFr_t hF946 hG959 (by decide) (by decide)
              have hs961 : 0 ≤ σ957 86 36 ∧ σ957 86 36 ≤ 120 := hI958.1 86 36
              show qr_W (qe L xs vb) (d + 43) qx_e213 _ (102, _, [.int (qz v952)], qw σ957 α κ ρ, 0, 0)
              refine qr_istore _ 104 rfl (by decide) rfl rfl ?_
              refine qr_goto 33 rfl rfl ?_
              exact ih813 _ u797 u799 v952 σ957 (by omega) (qm_gk (qm_gk (qm_gk (qm_gk (qm_gk g795 (by decide) (Or.inl (by decide))) (by decide) (Or.inl (by decide))) (by decide) (Or.inl (by decide))) (by decide) (Or.inl (by decide))) (by decide) (Or.inl (by decide))) (qm_gk (qm_gk (qm_gk (qm_gk (qm_gk g796 (by decide) (Or.inl (by decide))) (by decide) (Or.inl (by decide))) (by decide) (Or.inl (by decide))) (by decide) (Or.inl (by decide))) (by decide) (Or.inl (by decide))) (qm_gk (qm_gk (qm_gk (qm_gk (qm_gk g798 (by decide) (Or.inl (by decide))) (by decide) (Or.inl (by decide))) (by decide) (Or.inl (by decide))) (by decide) (Or.inl (by decide))) (by decide) (Or.inr rfl)) (qm_ge _ _ _) hf808 hf809 hv952 hI958 hF960 ((hG959.1 86 35 (by decide)).trans ((hG945.1 86 35 (by decide)).trans ((hG850.1 86 35 (by decide)).trans ((hG838.1 86 35 (by decide)).trans ((hk806).trans rfl))))) ((hG959.1 86 37 (by decide)).trans ((hG945.1 86 37 (by decide)).trans ((hG850.1 86 37 (by decide)).trans ((hG838.1 86 37 (by decide)).trans ((hk807).trans rfl))))) (by have hw0 : σ957 86 39 = (σ943 86 39) := (hG959.1 86 39 (by decide)).trans rfl; have hw1 : σ957 86 36 = (σ957 86 36) := rfl; have hw2 : σ957 86 37 = x2 := (hG959.1 86 37 (by decide)).trans ((hG945.1 86 37 (by decide)).trans ((hG850.1 86 37 (by decide)).trans ((hG838.1 86 37 (by decide)).trans ((hk807).trans rfl)))); omega)
            · skip
              refine qr_iload 83 rfl (qm_gk (qm_ge _ _ _) (by decide) (Or.inl (by decide))) rfl ?_
              refine qr_if_eq 96 86 rfl rfl rfl (by decide) (fun h => False.elim (by omega)) (fun h962 => ?_)
              refine qr_iload_n 87 rfl (qm_gk (qm_gk (qm_gk (qm_gk g796 (by decide) (Or.inl (by decide))) (by decide) (Or.inl (by decide))) (by decide) (Or.inl (by decide))) (by decide) (Or.inl (by decide))) rfl ?_
              refine qr_if_ne 96 90 rfl rfl rfl (qrg hf808 (by decide) (by decide)) (fun h963 => ?_) (fun h963 => ?_)
              · skip
                refine qr_aload_n 97 rfl (qm_gk (qm_gk (qm_gk (qm_gk g795 (by decide) (Or.inl (by decide))) (by decide) (Or.inl (by decide))) (by decide) (Or.inl (by decide))) (by decide) (Or.inl (by decide))) rfl ?_
                refine qr_bipush 99 rfl (by decide) rfl ?_
                refine qr_callN 102 rfl rfl rfl (sf_222_86t (d := d + 41) hI944 (by decide) (by omega)) ?_
                have hs966 : 0 ≤ σ943 86 36 ∧ σ943 86 36 ≤ 120 := hI944.1 86 36
                have hs967 : 0 ≤ σ943 86 37 ∧ σ943 86 37 ≤ 120 := hI944.1 86 37
                have hs968 : σ943 86 37 = x2 := (hG945.1 86 37 (by decide)).trans ((hG850.1 86 37 (by decide)).trans ((hG838.1 86 37 (by decide)).trans ((hk807).trans rfl)))
                rintro _ _ ⟨σ969, rfl, hI970, hG971, v964, rfl, hv964, hp965⟩
                have hF972 : qFr [(86, 35), (86, 36), (86, 37), (86, 38), (86, 39)] [] σ α σ969 α := qFr_t hF946 hG971 (by decide) (by decide)
                have hs973 : 0 ≤ σ969 86 36 ∧ σ969 86 36 ≤ 120 := hI970.1 86 36
                show qr_W (qe L xs vb) (d + 43) qx_e213 _ (102, _, [.int (qz v964)], qw σ969 α κ ρ, 0, 0)
                refine qr_istore _ 104 rfl (by decide) rfl rfl ?_
                refine qr_goto 33 rfl rfl ?_
                exact ih813 _ u797 u799 v964 σ969 (by omega) (qm_gk (qm_gk (qm_gk (qm_gk (qm_gk g795 (by decide) (Or.inl (by decide))) (by decide) (Or.inl (by decide))) (by decide) (Or.inl (by decide))) (by decide) (Or.inl (by decide))) (by decide) (Or.inl (by decide))) (qm_gk (qm_gk (qm_gk (qm_gk (qm_gk g796 (by decide) (Or.inl (by decide))) (by decide) (Or.inl (by decide))) (by decide) (Or.inl (by decide))) (by decide) (Or.inl (by decide))) (by decide) (Or.inl (by decide))) (qm_gk (qm_gk (qm_gk (qm_gk (qm_gk g798 (by decide) (Or.inl (by decide))) (by decide) (Or.inl (by decide))) (by decide) (Or.inl (by decide))) (by decide) (Or.inl (by decide))) (by decide) (Or.inr rfl)) (qm_ge _ _ _) hf808 hf809 hv964 hI970 hF972 ((hG971.1 86 35 (by decide)).trans ((hG945.1 86 35 (by decide)).trans ((hG850.1 86 35 (by decide)).trans ((hG838.1 86 35 (by decide)).trans ((hk806).trans rfl))))) ((hG971.1 86 37 (by decide)).trans ((hG945.1 86 37 (by decide)).trans ((hG850.1 86 37 (by decide)).trans ((hG838.1 86 37 (by decide)).trans ((hk807).trans rfl))))) (by have hw0 : σ969 86 39 = (σ943 86 39) := (hG971.1 86 39 (by decide)).trans rfl; have hw1 : σ969 86 36 = (σ969 86 36) := rfl; have hw2 : σ969 86 37 = x2 := (hG971.1 86 37 (by decide)).trans ((hG945.1 86 37 (by decide)).trans ((hG850.1 86 37 (by decide)).trans ((hG838.1 86 37 (by decide)).trans ((hk807).trans rfl)))); omega)
              · skip
                refine qr_iconst 91 rfl rfl ?_
                refine qr_istore_n _ 92 rfl (by decide) rfl rfl ?_
                refine qr_iload 94 rfl (qm_gk (qm_ge _ _ _) (by decide) (Or.inl (by decide))) rfl ?_
                refine qr_istore _ 96 rfl (by decide) rfl rfl ?_
                refine qr_aload_n 97 rfl (qm_gk (qm_gk (qm_gk (qm_gk (qm_gk (qm_gk g795 (by decide) (Or.inl (by decide))) (by decide) (Or.inl (by decide))) (by decide) (Or.inl (by decide))) (by decide) (Or.inl (by decide))) (by decide) (Or.inl (by decide))) (by decide) (Or.inl (by decide))) rfl ?_
                refine qr_bipush 99 rfl (by decide) rfl ?_
                refine qr_callN 102 rfl rfl rfl (sf_222_86t (d := d + 41) hI944 (by decide) (by omega)) ?_
                have hs976 : 0 ≤ σ943 86 36 ∧ σ943 86 36 ≤ 120 := hI944.1 86 36
                have hs977 : 0 ≤ σ943 86 37 ∧ σ943 86 37 ≤ 120 := hI944.1 86 37
                have hs978 : σ943 86 37 = x2 := (hG945.1 86 37 (by decide)).trans ((hG850.1 86 37 (by decide)).trans ((hG838.1 86 37 (by decide)).trans ((hk807).trans rfl)))
                rintro _ _ ⟨σ979, rfl, hI980, hG981, v974, rfl, hv974, hp975⟩
                have hF982 : qFr [(86, 35), (86, 36), (86, 37), (86, 38), (86, 39)] [] σ α σ979 α := qFr_t hF946 hG981 (by decide) (by decide)
                have hs983 : 0 ≤ σ979 86 36 ∧ σ979 86 36 ≤ 120 := hI980.1 86 36
                show qr_W (qe L xs vb) (d + 43) qx_e213 _ (102, _, [.int (qz v974)], qw σ979 α κ ρ, 0, 0)
                refine qr_istore _ 104 rfl (by decide) rfl rfl ?_
                refine qr_goto 33 rfl rfl ?_
                exact ih813 _ 1 v936 v974 σ979 (by omega) (qm_gk (qm_gk (qm_gk (qm_gk (qm_gk (qm_gk (qm_gk g795 (by decide) (Or.inl (by decide))) (by decide) (Or.inl (by decide))) (by decide) (Or.inl (by decide))) (by decide) (Or.inl (by decide))) (by decide) (Or.inl (by decide))) (by decide) (Or.inl (by decide))) (by decide) (Or.inl (by decide))) (qm_gk (qm_gk (qm_ge _ _ _) (by decide) (Or.inr rfl)) (by decide) (Or.inl (by decide))) (qm_gk (qm_ge _ _ _) (by decide) (Or.inr rfl)) (qm_ge _ _ _) (by decide) hv936 hv974 hI980 hF982 ((hG981.1 86 35 (by decide)).trans ((hG945.1 86 35 (by decide)).trans ((hG850.1 86 35 (by decide)).trans ((hG838.1 86 35 (by decide)).trans ((hk806).trans rfl))))) ((hG981.1 86 37 (by decide)).trans ((hG945.1 86 37 (by decide)).trans ((hG850.1 86 37 (by decide)).trans ((hG838.1 86 37 (by decide)).trans ((hk807).trans rfl))))) (by have hw0 : σ979 86 39 = (σ943 86 39) := (hG981.1 86 39 (by decide)).trans rfl; have hw1 : σ979 86 36 = (σ979 86 36) := rfl; have hw2 : σ979 86 37 = x2 := (hG981.1 86 37 (by decide)).trans ((hG945.1 86 37 (by decide)).trans ((hG850.1 86 37 (by decide)).trans ((hG838.1 86 37 (by decide)).trans ((hk807).trans rfl)))); omega)
  exact hL812 ((2 * ((120 - σ17 86 36).toNat : Int) + 1 + 1 : Int)).toNat _ 0 0 1 σ17 (by omega) rfl rfl rfl rfl (by decide) (by decide) (by decide) hI19 hF20 ((congrFun (congrFun e18 86) 35).trans ((congrFun (congrFun e14 86) 35).trans ((congrFun (congrFun e10 86) 35).trans ((congrFun (congrFun e6 86) 35).trans ((congrFun (congrFun e2 86) 35).trans rfl))))) ((congrFun (congrFun e18 86) 37).trans ((congrFun (congrFun e14 86) 37).trans ((congrFun (congrFun e10 86) 37).trans rfl))) (by have hw0 : σ17 86 39 = 0 := (congrFun (congrFun e18 86) 39).trans rfl; have hw1 : σ17 86 36 = 0 := (congrFun (congrFun e18 86) 36).trans ((congrFun (congrFun e14 86) 36).trans ((congrFun (congrFun e10 86) 36).trans ((congrFun (congrFun e6 86) 36).trans rfl))); have hw2 : σ17 86 37 = x2 := (congrFun (congrFun e18 86) 37).trans ((congrFun (congrFun e14 86) 37).trans ((congrFun (congrFun e10 86) 37).trans rfl)); omega)

set_option maxHeartbeats 4000000 in
set_option maxRecDepth 20000 in
/-- OneRoofModel.gives -/
theorem sf_228_86 {L : Nat} {xs : Nat → Int} {vb : Bool} {d : Nat} {σ α : Nat → Nat → Int} {κ : Nat → Option Nat} {ρ : Nat} {x1 : Int} {x2 : Int} {x3 : Int} {x4 : Int} {x5 : Int} {x6 : Int} (hI : qI σ α κ ρ) (r1 : 0 ≤ x1 ∧ x1 ≤ 1) (r2 : 0 ≤ x2 ∧ x2 ≤ 31) (r3 : 0 ≤ x3 ∧ x3 ≤ 31) (r4 : (-1) ≤ x4 ∧ x4 ≤ 31) (r5 : (-9223372036854775808) ≤ x5 ∧ x5 ≤ 9223372036854775807) (r6 : (-2147483648) ≤ x6 ∧ x6 ≤ 2147483647) (p0 : 1 ≤ σ 86 6) : qm_T (qe L xs vb) (d + 45) 228 [.ref 86, .int (qz x1), .int (qz x2), .int (qz x3), .int (qz x4), .long (ql x5), .int (qz x6)] (qw σ α κ ρ) (fun r w' => ∃ σ' α', w' = qw σ' α' κ ρ ∧ qI σ' α' κ ρ ∧ qFr [(86, 15), (86, 23), (86, 30), (86, 35), (86, 36), (86, 37), (86, 38), (86, 39)] [96, 109] σ α σ' α' ∧ ∃ v : Int, r = some (.int (qz v)) ∧ ((-2147483648) ≤ v ∧ v ≤ 2147483647)) := by
  refine qr_start (d := d + 44) qv_e228 (Nat.le_of_ble_eq_true rfl) ?_
  show qr_W (qe L xs vb) (d + 44) qx_e228 _ (0, [(0, .ref 86), (1, .int (qz x1)), (2, .int (qz x2)), (3, .int (qz x3)), (4, .int (qz x4)), (5, .long (ql x5)), (7, .int (qz x6))], [], _, 0, 0)
  have hF0 := qFr_rf [(86, 15), (86, 23), (86, 30), (86, 35), (86, 36), (86, 37), (86, 38), (86, 39)] [96, 109] σ α
  have hz86_6 : 0 ≤ σ 86 6 ∧ σ 86 6 ≤ 32 := hI.1 86 6
  refine qr_aload_n 1 rfl rfl rfl ?_
  refine qr_iload_n 2 rfl rfl rfl ?_
  refine qr_iload_n 3 rfl rfl rfl ?_
  refine qr_iload 5 rfl rfl rfl ?_
  refine qr_callN 8 rfl rfl rfl (sf_195_86 (d := d + 39) hI r2 r3 r6) ?_
  rintro _ _ ⟨σ2, α3, rfl, hI4, hG5, v1, rfl, hv1⟩
  have hF6 : qFr [(86, 15), (86, 23), (86, 30), (86, 35), (86, 36), (86, 37), (86, 38), (86, 39)] [96, 109] σ α σ2 α3 := qFr_t hF0 hG5 (by decide) (by decide)
  show qr_W (qe L xs vb) (d + 44) qx_e228 _ (8, _, [.int (qz v1)], qw σ2 α3 κ ρ, 0, 0)
  refine qr_istore _ 10 rfl (by decide) rfl rfl ?_
  refine qr_aload_n 11 rfl rfl rfl ?_
  refine qr_get 14 rfl rfl rfl (by decide) rfl ?_
  refine qr_iconst 15 rfl rfl ?_
  refine qr_iload 17 rfl rfl rfl ?_
  refine qr_bipush 19 rfl (by decide) rfl ?_
  have hJ17 : ∀ (ls : qm_L) (u15 : Int), qm_get ls 0 = some (.ref 86) → qm_get ls 1 = some (.int (qz x1)) → qm_get ls 2 = some (.int (qz x2)) → qm_get ls 3 = some (.int (qz x3)) → qm_get ls 4 = some (.int (qz x4)) → qm_get ls 5 = some (.long (ql x5)) → qm_get ls 7 = some (.int (qz x6)) → qm_get ls 8 = some (.int (qz v1)) → (0 ≤ u15 ∧ u15 ≤ 1) → qr_W (qe L xs vb) (d + 44) qx_e228 (fun r w' => ∃ σ' α', w' = qw σ' α' κ ρ ∧ qI σ' α' κ ρ ∧ qFr [(86, 15), (86, 23), (86, 30), (86, 35), (86, 36), (86, 37), (86, 38), (86, 39)] [96, 109] σ α σ' α' ∧ ∃ v : Int, r = some (.int (qz v)) ∧ ((-2147483648) ≤ v ∧ v ≤ 2147483647)) (27, ls, [.int (qz u15), .int (qz 0), .ref 109], qw σ2 α3 κ ρ, 0, 0) := by
    intro ls u15 g7 g8 g9 g10 g11 g12 g13 g14 hf16
    refine qr_iastore 28 rfl (by decide) rfl (by decide) (by decide) rfl ?_
    refine qy_wA (qw_r α3 109 (qzu (α3 109) (0 : Int).toNat u15)) rfl (fun α18 e19 => ?_)
    have hI20 : qI σ2 α18 κ ρ := by rw [e19]; exact qI_r hI4 109 _ rfl (show (-2147483648) ≤ u15 ∧ u15 ≤ 2147483647 by omega)
    have hF21 : qFr [(86, 15), (86, 23), (86, 30), (86, 35), (86, 36), (86, 37), (86, 38), (86, 39)] [96, 109] σ α σ2 α18 := by rw [e19]; exact qFr_r hF6 109 _ (by decide)
    refine qr_aload_n 29 rfl g7 rfl ?_
    refine qr_get 32 rfl rfl rfl (by decide) rfl ?_
    refine qr_iconst 33 rfl rfl ?_
    refine qr_iload 35 rfl g14 rfl ?_
    refine qr_bipush 37 rfl (by decide) rfl ?_
    have hJ31 : ∀ (ls : qm_L) (u29 : Int), qm_get ls 0 = some (.ref 86) → qm_get ls 1 = some (.int (qz x1)) → qm_get ls 2 = some (.int (qz x2)) → qm_get ls 3 = some (.int (qz x3)) → qm_get ls 4 = some (.int (qz x4)) → qm_get ls 5 = some (.long (ql x5)) → qm_get ls 7 = some (.int (qz x6)) → ((-2147483648) ≤ u29 ∧ u29 ≤ 2147483647) → qr_W (qe L xs vb) (d + 44) qx_e228 (fun r w' => ∃ σ' α', w' = qw σ' α' κ ρ ∧ qI σ' α' κ ρ ∧ qFr [(86, 15), (86, 23), (86, 30), (86, 35), (86, 36), (86, 37), (86, 38), (86, 39)] [96, 109] σ α σ' α' ∧ ∃ v : Int, r = some (.int (qz v)) ∧ ((-2147483648) ≤ v ∧ v ≤ 2147483647)) (47, ls, [.int (qz u29), .int (qz 1), .ref 109], qw σ2 α18 κ ρ, 0, 0) := by
      intro ls u29 g22 g23 g24 g25 g26 g27 g28 hf30
      refine qr_iastore 48 rfl (by decide) rfl (by decide) (by decide) rfl ?_
      refine qy_wA (qw_r α18 109 (qzu (α18 109) (1 : Int).toNat u29)) rfl (fun α32 e33 => ?_)
      have hI34 : qI σ2 α32 κ ρ := by rw [e33]; exact qI_r hI20 109 _ rfl (show (-2147483648) ≤ u29 ∧ u29 ≤ 2147483647 by omega)
      have hF35 : qFr [(86, 15), (86, 23), (86, 30), (86, 35), (86, 36), (86, 37), (86, 38), (86, 39)] [96, 109] σ α σ2 α32 := by rw [e33]; exact qFr_r hF21 109 _ (by decide)
      refine qr_aload_n 49 rfl g22 rfl ?_
      refine qr_get 52 rfl rfl rfl (by decide) rfl ?_
      refine qr_iconst 53 rfl rfl ?_
      refine qr_aload_n 54 rfl g22 rfl ?_
      refine qr_iload_n 55 rfl g24 rfl ?_
      refine qr_iload_n 56 rfl g25 rfl ?_
      refine qr_iload 58 rfl g28 rfl ?_
      have hs36 : 0 ≤ σ2 86 6 ∧ σ2 86 6 ≤ 32 := hI34.1 86 6
      have hs37 : σ2 86 6 = (σ 86 6) := (hG5.1 86 6 (by decide)).trans rfl
      refine qr_callN 61 rfl rfl rfl (sf_209_86 (d := d + 40) hI34 r2 r3 r6 (by omega)) ?_
      rintro _ _ ⟨σ39, rfl, hI40, hG41, v38, rfl, hv38⟩
      have hF42 : qFr [(86, 15), (86, 23), (86, 30), (86, 35), (86, 36), (86, 37), (86, 38), (86, 39)] [96, 109] σ α σ39 α32 := qFr_t hF35 hG41 (by decide) (by decide)
      show qr_W (qe L xs vb) (d + 44) qx_e228 _ (61, _, [.int (qz v38), .int (qz 2), .ref 109], qw σ39 α32 κ ρ, 0, 0)
      refine qr_iastore 62 rfl (by decide) rfl (by decide) (by decide) rfl ?_
      refine qy_wA (qw_r α32 109 (qzu (α32 109) (2 : Int).toNat v38)) rfl (fun α43 e44 => ?_)
      have hI45 : qI σ39 α43 κ ρ := by rw [e44]; exact qI_r hI40 109 _ rfl (show (-2147483648) ≤ v38 ∧ v38 ≤ 2147483647 by omega)
      have hF46 : qFr [(86, 15), (86, 23), (86, 30), (86, 35), (86, 36), (86, 37), (86, 38), (86, 39)] [96, 109] σ α σ39 α43 := by rw [e44]; exact qFr_r hF42 109 _ (by decide)
      refine qr_aload_n 63 rfl g22 rfl ?_
      refine qr_get 66 rfl rfl rfl (by decide) rfl ?_
      refine qr_iconst 67 rfl rfl ?_
      refine qr_aload_n 68 rfl g22 rfl ?_
      refine qr_get 71 rfl rfl rfl (by decide) rfl ?_
      refine qr_iconst 72 rfl rfl ?_
      refine qr_iload_n 73 rfl g24 rfl ?_
      refine qr_iadd 74 rfl rfl ?_
      refine qr_iaload 75 rfl rfl (by omega) (by decide) rfl ?_
      refine qr_topI (fun v47 hv47 => ?_)
      have hs48 : (-2147483648) ≤ v47 ∧ v47 ≤ 2147483647 := by rw [hv47]; exact hI45.2.1 87 _ (show _ < 252 by omega)
      refine qr_iastore 76 rfl (by decide) rfl (by decide) (by decide) rfl ?_
      refine qy_wA (qw_r α43 109 (qzu (α43 109) (3 : Int).toNat v47)) rfl (fun α49 e50 => ?_)
      have hI51 : qI σ39 α49 κ ρ := by rw [e50]; exact qI_r hI45 109 _ rfl (show (-2147483648) ≤ v47 ∧ v47 ≤ 2147483647 by omega)
      have hF52 : qFr [(86, 15), (86, 23), (86, 30), (86, 35), (86, 36), (86, 37), (86, 38), (86, 39)] [96, 109] σ α σ39 α49 := by rw [e50]; exact qFr_r hF46 109 _ (by decide)
      refine qr_aload_n 77 rfl g22 rfl ?_
      refine qr_get 80 rfl rfl rfl (by decide) rfl ?_
      refine qr_iconst 81 rfl rfl ?_
      refine qr_aload_n 82 rfl g22 rfl ?_
      refine qr_get 85 rfl rfl rfl (by decide) rfl ?_
      refine qr_iconst 86 rfl rfl ?_
      refine qr_iload_n 87 rfl g25 rfl ?_
      refine qr_iadd 88 rfl rfl ?_
      refine qr_iaload 89 rfl rfl (by omega) (by decide) rfl ?_
      refine qr_topI (fun v53 hv53 => ?_)
      have hs54 : (-2147483648) ≤ v53 ∧ v53 ≤ 2147483647 := by rw [hv53]; exact hI51.2.1 87 _ (show _ < 252 by omega)
      refine qr_iastore 90 rfl (by decide) rfl (by decide) (by decide) rfl ?_
      refine qy_wA (qw_r α49 109 (qzu (α49 109) (4 : Int).toNat v53)) rfl (fun α55 e56 => ?_)
      have hI57 : qI σ39 α55 κ ρ := by rw [e56]; exact qI_r hI51 109 _ rfl (show (-2147483648) ≤ v53 ∧ v53 ≤ 2147483647 by omega)
      have hF58 : qFr [(86, 15), (86, 23), (86, 30), (86, 35), (86, 36), (86, 37), (86, 38), (86, 39)] [96, 109] σ α σ39 α55 := by rw [e56]; exact qFr_r hF52 109 _ (by decide)
      refine qr_aload_n 91 rfl g22 rfl ?_
      refine qr_get 94 rfl rfl rfl (by decide) rfl ?_
      refine qr_iconst 95 rfl rfl ?_
      refine qr_aload_n 96 rfl g22 rfl ?_
      refine qr_iload_n 97 rfl g25 rfl ?_
      refine qr_iload_n 98 rfl g24 rfl ?_
      have hs59 : 0 ≤ σ39 86 6 ∧ σ39 86 6 ≤ 32 := hI57.1 86 6
      have hs60 : σ39 86 6 = (σ 86 6) := (hG41.1 86 6 (by decide)).trans ((hG5.1 86 6 (by decide)).trans rfl)
      refine qr_callN 101 rfl rfl rfl (sf_207_86 (d := d + 43) hI57 (qrg r3 (by decide) (by decide)) r2 (by omega)) ?_
      rintro _ _ ⟨rfl, v61, rfl, hv61⟩
      show qr_W (qe L xs vb) (d + 44) qx_e228 _ (101, _, [.int (qz v61), .int (qz 5), .ref 109], qw σ39 α55 κ ρ, 0, 0)
      have hJ70 : ∀ (ls : qm_L) (u68 : Int), qm_get ls 0 = some (.ref 86) → qm_get ls 1 = some (.int (qz x1)) → qm_get ls 2 = some (.int (qz x2)) → qm_get ls 3 = some (.int (qz x3)) → qm_get ls 4 = some (.int (qz x4)) → qm_get ls 5 = some (.long (ql x5)) → (0 ≤ u68 ∧ u68 ≤ 1) → qr_W (qe L xs vb) (d + 44) qx_e228 (fun r w' => ∃ σ' α', w' = qw σ' α' κ ρ ∧ qI σ' α' κ ρ ∧ qFr [(86, 15), (86, 23), (86, 30), (86, 35), (86, 36), (86, 37), (86, 38), (86, 39)] [96, 109] σ α σ' α' ∧ ∃ v : Int, r = some (.int (qz v)) ∧ ((-2147483648) ≤ v ∧ v ≤ 2147483647)) (109, ls, [.int (qz u68), .int (qz 5), .ref 109], qw σ39 α55 κ ρ, 0, 0) := by
        intro ls u68 g62 g63 g64 g65 g66 g67 hf69
        refine qr_iastore 110 rfl (by decide) rfl (by decide) (by decide) rfl ?_
        refine qy_wA (qw_r α55 109 (qzu (α55 109) (5 : Int).toNat u68)) rfl (fun α71 e72 => ?_)
        have hI73 : qI σ39 α71 κ ρ := by rw [e72]; exact qI_r hI57 109 _ rfl (show (-2147483648) ≤ u68 ∧ u68 ≤ 2147483647 by omega)
        have hF74 : qFr [(86, 15), (86, 23), (86, 30), (86, 35), (86, 36), (86, 37), (86, 38), (86, 39)] [96, 109] σ α σ39 α71 := by rw [e72]; exact qFr_r hF58 109 _ (by decide)
        refine qr_aload_n 111 rfl g62 rfl ?_
        refine qr_get 114 rfl rfl rfl (by decide) rfl ?_
        refine qr_bipush 116 rfl (by decide) rfl ?_
        refine qr_aload_n 117 rfl g62 rfl ?_
        refine qr_iload_n 118 rfl g64 rfl ?_
        refine qr_iload_n 119 rfl g65 rfl ?_
        refine qr_callN 122 rfl rfl rfl (sf_187_86 (d := d + 41) hI73 r2 r3) ?_
        rintro _ _ ⟨σ78, α79, rfl, hI80, hG81, hw77, v75, rfl, hv75, hp76⟩
        have hF82 : qFr [(86, 15), (86, 23), (86, 30), (86, 35), (86, 36), (86, 37), (86, 38), (86, 39)] [96, 109] σ α σ78 α79 := qFr_t hF74 hG81 (by decide) (by decide)
        have hs83 : 0 ≤ σ78 86 15 ∧ σ78 86 15 ≤ 1 := hI80.1 86 15
        show qr_W (qe L xs vb) (d + 44) qx_e228 _ (122, _, [.int (qz v75), .int (qz 6), .ref 109], qw σ78 α79 κ ρ, 0, 0)
        refine qr_bipush 124 rfl (by decide) rfl ?_
        have hJ105 : ∀ (ls : qm_L) (u98 : Int) (σ99 α100 : Nat → Nat → Int), qm_get ls 0 = some (.ref 86) → qm_get ls 1 = some (.int (qz x1)) → qm_get ls 2 = some (.int (qz x2)) → qm_get ls 4 = some (.int (qz x4)) → qm_get ls 5 = some (.long (ql x5)) → (0 ≤ u98 ∧ u98 ≤ 99) → qI σ99 α100 κ ρ → qFr [(86, 15), (86, 23), (86, 30), (86, 35), (86, 36), (86, 37), (86, 38), (86, 39)] [96, 109] σ α σ99 α100 → σ99 86 6 = (σ 86 6) → qr_W (qe L xs vb) (d + 44) qx_e228 (fun r w' => ∃ σ' α', w' = qw σ' α' κ ρ ∧ qI σ' α' κ ρ ∧ qFr [(86, 15), (86, 23), (86, 30), (86, 35), (86, 36), (86, 37), (86, 38), (86, 39)] [96, 109] σ α σ' α' ∧ ∃ v : Int, r = some (.int (qz v)) ∧ ((-2147483648) ≤ v ∧ v ≤ 2147483647)) (138, ls, [.int (qz u98), .int (qz 6), .ref 109], qw σ99 α100 κ ρ, 0, 0) := by
          intro ls u98 σ99 α100 g93 g94 g95 g96 g97 hf104 hI101 hF102 hk103
          refine qr_iastore 139 rfl (by decide) rfl (by decide) (by decide) rfl ?_
          refine qy_wA (qw_r α100 109 (qzu (α100 109) (6 : Int).toNat u98)) rfl (fun α106 e107 => ?_)
          have hI108 : qI σ99 α106 κ ρ := by rw [e107]; exact qI_r hI101 109 _ rfl (show (-2147483648) ≤ u98 ∧ u98 ≤ 2147483647 by omega)
          have hF109 : qFr [(86, 15), (86, 23), (86, 30), (86, 35), (86, 36), (86, 37), (86, 38), (86, 39)] [96, 109] σ α σ99 α106 := by rw [e107]; exact qFr_r hF102 109 _ (by decide)
          refine qr_aload_n 140 rfl g93 rfl ?_
          refine qr_get 143 rfl rfl rfl (by decide) rfl ?_
          refine qr_bipush 145 rfl (by decide) rfl ?_
          refine qr_iconst 146 rfl rfl ?_
          refine qr_iastore 147 rfl (by decide) rfl (by decide) (by decide) rfl ?_
          refine qy_wA (qw_r α106 109 (qzu (α106 109) (7 : Int).toNat 0)) rfl (fun α110 e111 => ?_)
          have hI112 : qI σ99 α110 κ ρ := by rw [e111]; exact qI_r hI108 109 _ rfl (show (-2147483648) ≤ 0 ∧ 0 ≤ 2147483647 by omega)
          have hF113 : qFr [(86, 15), (86, 23), (86, 30), (86, 35), (86, 36), (86, 37), (86, 38), (86, 39)] [96, 109] σ α σ99 α110 := by rw [e111]; exact qFr_r hF109 109 _ (by decide)
          refine qr_iconst 148 rfl rfl ?_
          refine qr_istore _ 150 rfl (by decide) rfl rfl ?_
          have hL3049 : ∀ (n : Nat) (ls : qm_L) (u3043 : Int) (α3045 : Nat → Nat → Int), 32 - u3043 < (n : Int) → qm_get ls 0 = some (.ref 86) → qm_get ls 1 = some (.int (qz x1)) → qm_get ls 2 = some (.int (qz x2)) → qm_get ls 4 = some (.int (qz x4)) → qm_get ls 5 = some (.long (ql x5)) → qm_get ls 9 = some (.int (qz u3043)) → (0 ≤ u3043 ∧ u3043 ≤ 32) → qI σ99 α3045 κ ρ → qFr [(86, 15), (86, 23), (86, 30), (86, 35), (86, 36), (86, 37), (86, 38), (86, 39)] [96, 109] σ α σ99 α3045 → qr_W (qe L xs vb) (d + 44) qx_e228 (fun r w' => ∃ σ' α', w' = qw σ' α' κ ρ ∧ qI σ' α' κ ρ ∧ qFr [(86, 15), (86, 23), (86, 30), (86, 35), (86, 36), (86, 37), (86, 38), (86, 39)] [96, 109] σ α σ' α' ∧ ∃ v : Int, r = some (.int (qz v)) ∧ ((-2147483648) ≤ v ∧ v ≤ 2147483647)) (150, ls, [], qw σ99 α3045 κ ρ, 0, 0) := by
            intro n
            induction n with
            | zero => intro ls u3043 α3045 hm g3037 g3038 g3039 g3040 g3041 g3042 hf3048 hI3046 hF3047; exact False.elim (by omega)
            | succ n ih3050 =>
              intro ls u3043 α3045 hm g3037 g3038 g3039 g3040 g3041 g3042 hf3048 hI3046 hF3047
              refine qr_iload 152 rfl g3042 rfl ?_
              refine qr_aload_n 153 rfl g3037 rfl ?_
              refine qr_get 156 rfl rfl rfl (by decide) rfl ?_
              refine qy_v (σ 86 6) ((hk103).trans rfl) ?_
              refine qr_icmp_ge 251 159 rfl rfl rfl (qrg hf3048 (by decide) (by decide)) (qrg hz86_6 (by decide) (by decide)) (fun h3114 => ?_) (fun h3114 => ?_)
              · skip
                refine qr_aload_n 252 rfl g3037 rfl ?_
                refine qr_get 255 rfl rfl rfl (by decide) rfl ?_
                refine qr_bipush 257 rfl (by decide) rfl ?_
                refine qr_iload 259 rfl g3040 rfl ?_
                have hJ3142 : ∀ (ls : qm_L) (u3135 : Int) (σ3136 α3137 : Nat → Nat → Int), qm_get ls 0 = some (.ref 86) → qm_get ls 1 = some (.int (qz x1)) → (0 ≤ u3135 ∧ u3135 ≤ 99) → qI σ3136 α3137 κ ρ → qFr [(86, 15), (86, 23), (86, 30), (86, 35), (86, 36), (86, 37), (86, 38), (86, 39)] [96, 109] σ α σ3136 α3137 → σ3136 86 6 = (σ 86 6) → qr_W (qe L xs vb) (d + 44) qx_e228 (fun r w' => ∃ σ' α', w' = qw σ' α' κ ρ ∧ qI σ' α' κ ρ ∧ qFr [(86, 15), (86, 23), (86, 30), (86, 35), (86, 36), (86, 37), (86, 38), (86, 39)] [96, 109] σ α σ' α' ∧ ∃ v : Int, r = some (.int (qz v)) ∧ ((-2147483648) ≤ v ∧ v ≤ 2147483647)) (290, ls, [.int (qz u3135), .int (qz 8), .ref 109], qw σ3136 α3137 κ ρ, 0, 0) := by
                  intro ls u3135 σ3136 α3137 g3133 g3134 hf3141 hI3138 hF3139 hk3140
                  refine qr_iastore 291 rfl (by decide) rfl (by decide) (by decide) rfl ?_
                  refine qy_wA (qw_r α3137 109 (qzu (α3137 109) (8 : Int).toNat u3135)) rfl (fun α3143 e3144 => ?_)
                  have hI3145 : qI σ3136 α3143 κ ρ := by rw [e3144]; exact qI_r hI3138 109 _ rfl (show (-2147483648) ≤ u3135 ∧ u3135 ≤ 2147483647 by omega)
                  have hF3146 : qFr [(86, 15), (86, 23), (86, 30), (86, 35), (86, 36), (86, 37), (86, 38), (86, 39)] [96, 109] σ α σ3136 α3143 := by rw [e3144]; exact qFr_r hF3139 109 _ (by decide)
                  refine qr_aload_n 292 rfl g3133 rfl ?_
                  refine qr_get 295 rfl rfl rfl (by decide) rfl ?_
                  refine qr_iload_n 296 rfl g3134 rfl ?_
                  refine qr_iaload 297 rfl rfl (qrgi r1 (by decide) (by decide)) (by decide) rfl ?_
                  refine qr_topI (fun v3147 hv3147 => ?_)
                  have hs3148 : (-1) ≤ v3147 ∧ v3147 ≤ 120 := by rw [hv3147]; exact hI3145.2.1 108 _ (show _ < 2 from qrgt r1 (by decide) (by decide))
                  refine qr_if_lt 315 300 rfl rfl rfl (qrg hs3148 (by decide) (by decide)) (fun h3149 => ?_) (fun h3149 => ?_)
                  · skip
                    refine qr_iload_n 316 rfl g3134 rfl ?_
                    have hJ3160 : ∀ (ls : qm_L) (u3158 : Int), (0 ≤ u3158 ∧ u3158 ≤ 1) → qr_W (qe L xs vb) (d + 44) qx_e228 (fun r w' => ∃ σ' α', w' = qw σ' α' κ ρ ∧ qI σ' α' κ ρ ∧ qFr [(86, 15), (86, 23), (86, 30), (86, 35), (86, 36), (86, 37), (86, 38), (86, 39)] [96, 109] σ α σ' α' ∧ ∃ v : Int, r = some (.int (qz v)) ∧ ((-2147483648) ≤ v ∧ v ≤ 2147483647)) (372, ls, [.int (qz u3158)], qw σ3136 α3143 κ ρ, 0, 0) := by
                      intro ls u3158 hf3159
                      refine qr_istore _ 374 rfl (by decide) rfl rfl ?_
                      refine qr_iload 376 rfl (qm_ge _ _ _) rfl ?_
                      refine qr_if_eq 383 379 rfl rfl rfl (qrg hf3159 (by decide) (by decide)) (fun h3161 => ?_) (fun h3161 => ?_)
                      · skip
                        refine qr_iconst 384 rfl rfl ?_
                        refine qr_retI rfl rfl (by decide) (by decide) ?_
                        exact ⟨_, _, rfl, hI3145, hF3146, 0, rfl, (by decide)⟩
                      · skip
                        refine qr_iconst 380 rfl rfl ?_
                        refine qr_goto 384 rfl rfl ?_
                        refine qr_retI rfl rfl (by decide) (by decide) ?_
                        exact ⟨_, _, rfl, hI3145, hF3146, 1, rfl, (by decide)⟩
                    refine qr_if_ne 346 319 rfl rfl rfl (qrg r1 (by decide) (by decide)) (fun h3162 => ?_) (fun h3162 => ?_)
                    · skip
                      refine qr_aload_n 347 rfl g3133 rfl ?_
                      refine qr_get 350 rfl rfl rfl (by decide) rfl ?_
                      refine qr_bipush 352 rfl (by decide) rfl ?_
                      refine qr_iaload 353 rfl rfl (by decide) (by decide) rfl ?_
                      refine qr_topI (fun v3163 hv3163 => ?_)
                      have hs3164 : (-2147483648) ≤ v3163 ∧ v3163 ≤ 2147483647 := by rw [hv3163]; exact hI3145.2.1 109 _ (show _ < 9 by decide)
                      refine qr_iconst 354 rfl rfl ?_
                      refine qr_icmp_ge 371 357 rfl rfl rfl hs3164 (by decide) (fun h3165 => ?_) (fun h3165 => ?_)
                      · skip
                        refine qr_iconst 372 rfl rfl ?_
                        exact hJ3160 _ 0 (by decide)
                      · skip
                        refine qr_aload_n 358 rfl g3133 rfl ?_
                        refine qr_get 361 rfl rfl rfl (by decide) rfl ?_
                        refine qr_iconst 362 rfl rfl ?_
                        refine qr_iaload 363 rfl rfl (by decide) (by decide) rfl ?_
                        refine qr_topI (fun v3166 hv3166 => ?_)
                        have hs3167 : (-2147483648) ≤ v3166 ∧ v3166 ≤ 2147483647 := by rw [hv3166]; exact hI3145.2.1 109 _ (show _ < 9 by decide)
                        refine qr_iconst 364 rfl rfl ?_
                        refine qr_icmp_ne 371 367 rfl rfl rfl hs3167 (by decide) (fun h3168 => ?_) (fun h3168 => ?_)
                        · skip
                          refine qr_iconst 372 rfl rfl ?_
                          exact hJ3160 _ 0 (by decide)
                        · skip
                          refine qr_iconst 368 rfl rfl ?_
                          refine qr_goto 372 rfl rfl ?_
                          exact hJ3160 _ 1 (by decide)
                    · skip
                      refine qr_aload_n 320 rfl g3133 rfl ?_
                      refine qr_get 323 rfl rfl rfl (by decide) rfl ?_
                      refine qr_iconst 324 rfl rfl ?_
                      refine qr_iaload 325 rfl rfl (by decide) (by decide) rfl ?_
                      refine qr_topI (fun v3169 hv3169 => ?_)
                      have hs3170 : (-2147483648) ≤ v3169 ∧ v3169 ≤ 2147483647 := by rw [hv3169]; exact hI3145.2.1 109 _ (show _ < 9 by decide)
                      refine qr_iconst 326 rfl rfl ?_
                      refine qr_icmp_ne 342 329 rfl rfl rfl hs3170 (by decide) (fun h3171 => ?_) (fun h3171 => ?_)
                      · skip
                        refine qr_iconst 343 rfl rfl ?_
                        refine qr_goto 372 rfl rfl ?_
                        exact hJ3160 _ 0 (by decide)
                      · skip
                        refine qr_aload_n 330 rfl g3133 rfl ?_
                        refine qr_get 333 rfl rfl rfl (by decide) rfl ?_
                        refine qr_iconst 334 rfl rfl ?_
                        refine qr_iaload 335 rfl rfl (by decide) (by decide) rfl ?_
                        refine qr_topI (fun v3172 hv3172 => ?_)
                        have hs3173 : (-2147483648) ≤ v3172 ∧ v3172 ≤ 2147483647 := by rw [hv3172]; exact hI3145.2.1 109 _ (show _ < 9 by decide)
                        refine qr_if_ne 342 338 rfl rfl rfl hs3173 (fun h3174 => ?_) (fun h3174 => ?_)
                        · skip
                          refine qr_iconst 343 rfl rfl ?_
                          refine qr_goto 372 rfl rfl ?_
                          exact hJ3160 _ 0 (by decide)
                        · skip
                          refine qr_iconst 339 rfl rfl ?_
                          refine qr_goto 372 rfl rfl ?_
                          exact hJ3160 _ 1 (by decide)
                  · skip
                    refine qr_aload_n 301 rfl g3133 rfl ?_
                    refine qr_bipush 303 rfl (by decide) rfl ?_
                    refine qr_iload_n 304 rfl g3134 rfl ?_
                    refine qr_imul 305 rfl rfl ?_
                    refine qr_aload_n 306 rfl g3133 rfl ?_
                    refine qr_get 309 rfl rfl rfl (by decide) rfl ?_
                    refine qr_iload_n 310 rfl g3134 rfl ?_
                    refine qr_iaload 311 rfl rfl (qrgi r1 (by decide) (by decide)) (by decide) rfl ?_
                    refine qr_topI (fun v3175 hv3175 => ?_)
                    have hs3176 : (-1) ≤ v3175 ∧ v3175 ≤ 120 := by rw [hv3175]; exact hI3145.2.1 108 _ (show _ < 2 from qrgt r1 (by decide) (by decide))
                    refine qr_callN 314 rfl rfl rfl (sf_213_86 (d := d + 0) hI3145 (by omega) (by omega)) ?_
                    rintro _ _ ⟨σ3178, rfl, hI3179, hG3180, v3177, rfl, hv3177⟩
                    have hF3181 : qFr [(86, 15), (86, 23), (86, 30), (86, 35), (86, 36), (86, 37), (86, 38), (86, 39)] [96, 109] σ α σ3178 α3143 := qFr_t hF3146 hG3180 (by decide) (by decide)
                    show qr_W (qe L xs vb) (d + 44) qx_e228 _ (314, _, [.int (qz v3177)], qw σ3178 α3143 κ ρ, 0, 0)
                    refine qr_retI rfl rfl (by decide) (by decide) ?_
                    exact ⟨_, _, rfl, hI3179, hF3181, v3177, rfl, hv3177⟩
                refine qr_if_ge 266 262 rfl rfl rfl (qrg r4 (by decide) (by decide)) (fun h3182 => ?_) (fun h3182 => ?_)
                · skip
                  refine qr_aload_n 267 rfl g3037 rfl ?_
                  refine qr_iload_n 268 rfl g3039 rfl ?_
                  refine qr_iload 270 rfl g3040 rfl ?_
                  refine qr_callN 273 rfl rfl rfl (sf_187_86 (d := d + 41) hI3046 r2 (by omega)) ?_
                  rintro _ _ ⟨σ3186, α3187, rfl, hI3188, hG3189, hw3185, v3183, rfl, hv3183, hp3184⟩
                  have hF3190 : qFr [(86, 15), (86, 23), (86, 30), (86, 35), (86, 36), (86, 37), (86, 38), (86, 39)] [96, 109] σ α σ3186 α3187 := qFr_t hF3047 hG3189 (by decide) (by decide)
                  have hs3191 : 0 ≤ σ3186 86 15 ∧ σ3186 86 15 ≤ 1 := hI3188.1 86 15
                  show qr_W (qe L xs vb) (d + 44) qx_e228 _ (273, _, [.int (qz v3183), .int (qz 8), .ref 109], qw σ3186 α3187 κ ρ, 0, 0)
                  refine qr_bipush 275 rfl (by decide) rfl ?_
                  refine qr_icmp_ne 283 278 rfl rfl rfl (qrg hv3183 (by decide) (by decide)) (by decide) (fun h3192 => ?_) (fun h3192 => ?_)
                  · skip
                    refine qr_aload_n 284 rfl g3037 rfl ?_
                    refine qr_iload_n 285 rfl g3039 rfl ?_
                    refine qr_iload 287 rfl g3040 rfl ?_
                    refine qr_callN 290 rfl rfl rfl (sf_187_86 (d := d + 41) hI3188 r2 (by omega)) ?_
                    rintro _ _ ⟨σ3196, α3197, rfl, hI3198, hG3199, hw3195, v3193, rfl, hv3193, hp3194⟩
                    have hF3200 : qFr [(86, 15), (86, 23), (86, 30), (86, 35), (86, 36), (86, 37), (86, 38), (86, 39)] [96, 109] σ α σ3196 α3197 := qFr_t hF3190 hG3199 (by decide) (by decide)
                    have hs3201 : 0 ≤ σ3196 86 15 ∧ σ3196 86 15 ≤ 1 := hI3198.1 86 15
                    show qr_W (qe L xs vb) (d + 44) qx_e228 _ (290, _, [.int (qz v3193), .int (qz 8), .ref 109], qw σ3196 α3197 κ ρ, 0, 0)
                    exact hJ3142 _ v3193 σ3196 α3197 g3037 g3038 hv3193 hI3198 hF3200 ((hG3199.1 86 6 (by decide)).trans ((hG3189.1 86 6 (by decide)).trans ((hk103).trans rfl)))
                  · skip
                    refine qr_bipush 280 rfl (by decide) rfl ?_
                    refine qr_goto 290 rfl rfl ?_
                    exact hJ3142 _ 9 σ3186 α3187 g3037 g3038 (by decide) hI3188 hF3190 ((hG3189.1 86 6 (by decide)).trans ((hk103).trans rfl))
                · skip
                  refine qr_iconst 263 rfl rfl ?_
                  refine qr_goto 290 rfl rfl ?_
                  exact hJ3142 _ 0 σ99 α3045 g3037 g3038 (by decide) hI3046 hF3047 ((hk103).trans rfl)
              · skip
                refine qr_lload 161 rfl g3041 rfl ?_
                refine qr_iload 163 rfl g3042 rfl ?_
                refine qr_lshr 164 rfl rfl ?_
                refine qy_canl (fun v3202 hv3202 => ?_)
                refine qr_lconst 165 rfl rfl ?_
                refine qy_vl 1 rfl ?_
                refine qr_land 166 rfl rfl ?_
                refine qy_canl (fun v3203 hv3203 => ?_)
                refine qr_lconst 167 rfl rfl ?_
                refine qy_vl 1 rfl ?_
                have hJ3232 : ∀ (ls : qm_L) (u3230 : Int), qm_get ls 0 = some (.ref 86) → qm_get ls 1 = some (.int (qz x1)) → qm_get ls 2 = some (.int (qz x2)) → qm_get ls 4 = some (.int (qz x4)) → qm_get ls 5 = some (.long (ql x5)) → qm_get ls 9 = some (.int (qz u3043)) → (0 ≤ u3230 ∧ u3230 ≤ 1) → qr_W (qe L xs vb) (d + 44) qx_e228 (fun r w' => ∃ σ' α', w' = qw σ' α' κ ρ ∧ qI σ' α' κ ρ ∧ qFr [(86, 15), (86, 23), (86, 30), (86, 35), (86, 36), (86, 37), (86, 38), (86, 39)] [96, 109] σ α σ' α' ∧ ∃ v : Int, r = some (.int (qz v)) ∧ ((-2147483648) ≤ v ∧ v ≤ 2147483647)) (223, ls, [.int (qz u3230)], qw σ99 α3045 κ ρ, 0, 0) := by
                  intro ls u3230 g3224 g3225 g3226 g3227 g3228 g3229 hf3231
                  refine qr_istore _ 225 rfl (by decide) rfl rfl ?_
                  refine qr_aload_n 226 rfl (qm_gk g3224 (by decide) (Or.inl (by decide))) rfl ?_
                  refine qr_get 229 rfl rfl rfl (by decide) rfl ?_
                  refine qr_bipush 231 rfl (by decide) rfl ?_
                  refine qr_dup2 232 rfl rfl rfl rfl ?_
                  refine qr_iaload 233 rfl rfl (by decide) (by decide) rfl ?_
                  refine qr_topI (fun v3233 hv3233 => ?_)
                  have hs3234 : (-2147483648) ≤ v3233 ∧ v3233 ≤ 2147483647 := by rw [hv3233]; exact hI3046.2.1 109 _ (show _ < 9 by decide)
                  refine qr_iload 235 rfl (qm_ge _ _ _) rfl ?_
                  have hJ3243 : ∀ (ls : qm_L) (u3241 : Int), qm_get ls 0 = some (.ref 86) → qm_get ls 1 = some (.int (qz x1)) → qm_get ls 2 = some (.int (qz x2)) → qm_get ls 4 = some (.int (qz x4)) → qm_get ls 5 = some (.long (ql x5)) → qm_get ls 9 = some (.int (qz u3043)) → (0 ≤ u3241 ∧ u3241 ≤ 1) → qr_W (qe L xs vb) (d + 44) qx_e228 (fun r w' => ∃ σ' α', w' = qw σ' α' κ ρ ∧ qI σ' α' κ ρ ∧ qFr [(86, 15), (86, 23), (86, 30), (86, 35), (86, 36), (86, 37), (86, 38), (86, 39)] [96, 109] σ α σ' α' ∧ ∃ v : Int, r = some (.int (qz v)) ∧ ((-2147483648) ≤ v ∧ v ≤ 2147483647)) (243, ls, [.int (qz u3241), .int (qz v3233), .int (qz 7), .ref 109], qw σ99 α3045 κ ρ, 0, 0) := by
                    intro ls u3241 g3235 g3236 g3237 g3238 g3239 g3240 hf3242
                    refine qr_iadd 244 rfl rfl ?_
                    refine qy_can (fun v3244 hv3244 => ?_)
                    refine qr_iastore 245 rfl (by decide) rfl (by decide) (by decide) rfl ?_
                    refine qy_wA (qw_r α3045 109 (qzu (α3045 109) (7 : Int).toNat v3244)) rfl (fun α3245 e3246 => ?_)
                    have hI3247 : qI σ99 α3245 κ ρ := by rw [e3246]; exact qI_r hI3046 109 _ rfl (show (-2147483648) ≤ v3244 ∧ v3244 ≤ 2147483647 by omega)
                    have hF3248 : qFr [(86, 15), (86, 23), (86, 30), (86, 35), (86, 36), (86, 37), (86, 38), (86, 39)] [96, 109] σ α σ99 α3245 := by rw [e3246]; exact qFr_r hF3047 109 _ (by decide)
                    refine qr_iinc _ 248 rfl g3240 (by decide) rfl rfl ?_
                    refine qr_goto 150 rfl rfl ?_
                    exact ih3050 _ (u3043 + 1) α3245 (by omega) (qm_gk g3235 (by decide) (Or.inl (by decide))) (qm_gk g3236 (by decide) (Or.inl (by decide))) (qm_gk g3237 (by decide) (Or.inl (by decide))) (qm_gk g3238 (by decide) (Or.inl (by decide))) (qm_gk g3239 (by decide) (Or.inl (by decide))) (qm_ge _ _ _) (by omega) hI3247 hF3248
                  refine qr_if_eq 242 238 rfl rfl rfl (qrg hf3231 (by decide) (by decide)) (fun h3249 => ?_) (fun h3249 => ?_)
                  · skip
                    refine qr_iconst 243 rfl rfl ?_
                    exact hJ3243 _ 0 (qm_gk g3224 (by decide) (Or.inl (by decide))) (qm_gk g3225 (by decide) (Or.inl (by decide))) (qm_gk g3226 (by decide) (Or.inl (by decide))) (qm_gk g3227 (by decide) (Or.inl (by decide))) (qm_gk g3228 (by decide) (Or.inl (by decide))) (qm_gk g3229 (by decide) (Or.inr rfl)) (by decide)
                  · skip
                    refine qr_iconst 239 rfl rfl ?_
                    refine qr_goto 243 rfl rfl ?_
                    exact hJ3243 _ 1 (qm_gk g3224 (by decide) (Or.inl (by decide))) (qm_gk g3225 (by decide) (Or.inl (by decide))) (qm_gk g3226 (by decide) (Or.inl (by decide))) (qm_gk g3227 (by decide) (Or.inl (by decide))) (qm_gk g3228 (by decide) (Or.inl (by decide))) (qm_gk g3229 (by decide) (Or.inr rfl)) (by decide)
                refine qr_lc_ne 222 171 rfl rfl rfl rfl hv3203 (by decide) (fun h3250 => ?_) (fun h3250 => ?_)
                · skip
                  refine qr_iconst 223 rfl rfl ?_
                  exact hJ3232 _ 0 g3037 g3038 g3039 g3040 g3041 g3042 (by decide)
                · skip
                  refine qr_aload_n 172 rfl g3037 rfl ?_
                  refine qr_get 175 rfl rfl rfl (by decide) rfl ?_
                  have hs3251 : 0 ≤ σ99 86 41 ∧ σ99 86 41 ≤ 1 := hI3046.1 86 41
                  refine qr_if_ne 187 178 rfl rfl rfl (qrg hs3251 (by decide) (by decide)) (fun h3252 => ?_) (fun h3252 => ?_)
                  · skip
                    refine qr_iload 189 rfl g3042 rfl ?_
                    refine qr_iload_n 190 rfl g3039 rfl ?_
                    refine qr_icmp_eq 218 193 rfl rfl rfl (qrg hf3048 (by decide) (by decide)) (qrg r2 (by decide) (by decide)) (fun h3253 => ?_) (fun h3253 => ?_)
                    · skip
                      refine qr_iconst 219 rfl rfl ?_
                      refine qr_goto 223 rfl rfl ?_
                      exact hJ3232 _ 1 g3037 g3038 g3039 g3040 g3041 g3042 (by decide)
                    · skip
                      refine qr_aload_n 194 rfl g3037 rfl ?_
                      refine qr_get 197 rfl rfl rfl (by decide) rfl ?_
                      refine qr_iload_n 198 rfl g3039 rfl ?_
                      refine qr_iaload 199 rfl rfl (qrgi r2 (by decide) (by decide)) (by decide) rfl ?_
                      refine qr_topI (fun v3254 hv3254 => ?_)
                      have hs3255 : (-1) ≤ v3254 ∧ v3254 ≤ 31 := by rw [hv3254]; exact hI3046.2.1 91 _ (show _ < 32 from qrgt r2 (by decide) (by decide))
                      have hs3256 := hI3046.2.2.2.2.2.2.1 (x2 : Int).toNat (by omega)
                      refine qr_if_lt 222 202 rfl rfl rfl (qrg hs3255 (by decide) (by decide)) (fun h3257 => ?_) (fun h3257 => ?_)
                      · skip
                        refine qr_iconst 223 rfl rfl ?_
                        exact hJ3232 _ 0 g3037 g3038 g3039 g3040 g3041 g3042 (by decide)
                      · skip
                        refine qr_aload_n 203 rfl g3037 rfl ?_
                        refine qr_get 206 rfl rfl rfl (by decide) rfl ?_
                        refine qr_iload 208 rfl g3042 rfl ?_
                        refine qr_iaload 209 rfl rfl (by omega) (by decide) rfl ?_
                        refine qr_topI (fun v3258 hv3258 => ?_)
                        have hs3259 : (-1) ≤ v3258 ∧ v3258 ≤ 31 := by rw [hv3258]; exact hI3046.2.1 91 _ (show _ < 32 by omega)
                        have hs3260 := hI3046.2.2.2.2.2.2.1 (u3043 : Int).toNat (by omega)
                        refine qr_aload_n 210 rfl g3037 rfl ?_
                        refine qr_get 213 rfl rfl rfl (by decide) rfl ?_
                        refine qr_iload_n 214 rfl g3039 rfl ?_
                        refine qr_iaload 215 rfl rfl (qrgi r2 (by decide) (by decide)) (by decide) rfl ?_
                        refine qr_topI (fun v3261 hv3261 => ?_)
                        have hs3262 : (-1) ≤ v3261 ∧ v3261 ≤ 31 := by rw [hv3261]; exact hI3046.2.1 91 _ (show _ < 32 from qrgt r2 (by decide) (by decide))
                        have hs3263 := hI3046.2.2.2.2.2.2.1 (x2 : Int).toNat (by omega)
                        refine qr_icmp_ne 222 218 rfl rfl rfl (qrg hs3259 (by decide) (by decide)) (qrg hs3262 (by decide) (by decide)) (fun h3264 => ?_) (fun h3264 => ?_)
                        · skip
                          refine qr_iconst 223 rfl rfl ?_
                          exact hJ3232 _ 0 g3037 g3038 g3039 g3040 g3041 g3042 (by decide)
                        · skip
                          refine qr_iconst 219 rfl rfl ?_
                          refine qr_goto 223 rfl rfl ?_
                          exact hJ3232 _ 1 g3037 g3038 g3039 g3040 g3041 g3042 (by decide)
                  · skip
                    refine qr_aload_n 179 rfl g3037 rfl ?_
                    refine qr_iload 181 rfl g3042 rfl ?_
                    refine qr_callN 184 rfl rfl rfl (sf_181_86 (d := d + 43) hI3046 (qrg hf3048 (by decide) (by decide))) ?_
                    rintro _ _ ⟨rfl, v3265, rfl, hv3265⟩
                    show qr_W (qe L xs vb) (d + 44) qx_e228 _ (184, _, [.int (qz v3265)], qw σ99 α3045 κ ρ, 0, 0)
                    refine qr_if_ne 222 187 rfl rfl rfl (qrg hv3265 (by decide) (by decide)) (fun h3266 => ?_) (fun h3266 => ?_)
                    · skip
                      refine qr_iconst 223 rfl rfl ?_
                      exact hJ3232 _ 0 g3037 g3038 g3039 g3040 g3041 g3042 (by decide)
                    · skip
                      refine qr_iload 189 rfl g3042 rfl ?_
                      refine qr_iload_n 190 rfl g3039 rfl ?_
                      refine qr_icmp_eq 218 193 rfl rfl rfl (qrg hf3048 (by decide) (by decide)) (qrg r2 (by decide) (by decide)) (fun h3267 => ?_) (fun h3267 => ?_)
                      · skip
                        refine qr_iconst 219 rfl rfl ?_
                        refine qr_goto 223 rfl rfl ?_
                        exact hJ3232 _ 1 g3037 g3038 g3039 g3040 g3041 g3042 (by decide)
                      · skip
                        refine qr_aload_n 194 rfl g3037 rfl ?_
                        refine qr_get 197 rfl rfl rfl (by decide) rfl ?_
                        refine qr_iload_n 198 rfl g3039 rfl ?_
                        refine qr_iaload 199 rfl rfl (qrgi r2 (by decide) (by decide)) (by decide) rfl ?_
                        refine qr_topI (fun v3268 hv3268 => ?_)
                        have hs3269 : (-1) ≤ v3268 ∧ v3268 ≤ 31 := by rw [hv3268]; exact hI3046.2.1 91 _ (show _ < 32 from qrgt r2 (by decide) (by decide))
                        have hs3270 := hI3046.2.2.2.2.2.2.1 (x2 : Int).toNat (by omega)
                        refine qr_if_lt 222 202 rfl rfl rfl (qrg hs3269 (by decide) (by decide)) (fun h3271 => ?_) (fun h3271 => ?_)
                        · skip
                          refine qr_iconst 223 rfl rfl ?_
                          exact hJ3232 _ 0 g3037 g3038 g3039 g3040 g3041 g3042 (by decide)
                        · skip
                          refine qr_aload_n 203 rfl g3037 rfl ?_
                          refine qr_get 206 rfl rfl rfl (by decide) rfl ?_
                          refine qr_iload 208 rfl g3042 rfl ?_
                          refine qr_iaload 209 rfl rfl (by omega) (by decide) rfl ?_
                          refine qr_topI (fun v3272 hv3272 => ?_)
                          have hs3273 : (-1) ≤ v3272 ∧ v3272 ≤ 31 := by rw [hv3272]; exact hI3046.2.1 91 _ (show _ < 32 by omega)
                          have hs3274 := hI3046.2.2.2.2.2.2.1 (u3043 : Int).toNat (by omega)
                          refine qr_aload_n 210 rfl g3037 rfl ?_
                          refine qr_get 213 rfl rfl rfl (by decide) rfl ?_
                          refine qr_iload_n 214 rfl g3039 rfl ?_
                          refine qr_iaload 215 rfl rfl (qrgi r2 (by decide) (by decide)) (by decide) rfl ?_
                          refine qr_topI (fun v3275 hv3275 => ?_)
                          have hs3276 : (-1) ≤ v3275 ∧ v3275 ≤ 31 := by rw [hv3275]; exact hI3046.2.1 91 _ (show _ < 32 from qrgt r2 (by decide) (by decide))
                          have hs3277 := hI3046.2.2.2.2.2.2.1 (x2 : Int).toNat (by omega)
                          refine qr_icmp_ne 222 218 rfl rfl rfl (qrg hs3273 (by decide) (by decide)) (qrg hs3276 (by decide) (by decide)) (fun h3278 => ?_) (fun h3278 => ?_)
                          · skip
                            refine qr_iconst 223 rfl rfl ?_
                            exact hJ3232 _ 0 g3037 g3038 g3039 g3040 g3041 g3042 (by decide)
                          · skip
                            refine qr_iconst 219 rfl rfl ?_
                            refine qr_goto 223 rfl rfl ?_
                            exact hJ3232 _ 1 g3037 g3038 g3039 g3040 g3041 g3042 (by decide)
          exact hL3049 ((32 - 0 + 1 : Int)).toNat _ 0 α110 (by omega) (qm_gk g93 (by decide) (Or.inl (by decide))) (qm_gk g94 (by decide) (Or.inl (by decide))) (qm_gk g95 (by decide) (Or.inl (by decide))) (qm_gk g96 (by decide) (Or.inl (by decide))) (qm_gk g97 (by decide) (Or.inl (by decide))) (qm_ge _ _ _) (by decide) hI112 hF113
        refine qr_icmp_ne 132 127 rfl rfl rfl (qrg hv75 (by decide) (by decide)) (by decide) (fun h3279 => ?_) (fun h3279 => ?_)
        · skip
          refine qr_aload_n 133 rfl g62 rfl ?_
          refine qr_iload_n 134 rfl g64 rfl ?_
          refine qr_iload_n 135 rfl g65 rfl ?_
          refine qr_callN 138 rfl rfl rfl (sf_187_86 (d := d + 41) hI80 r2 r3) ?_
          rintro _ _ ⟨σ3283, α3284, rfl, hI3285, hG3286, hw3282, v3280, rfl, hv3280, hp3281⟩
          have hF3287 : qFr [(86, 15), (86, 23), (86, 30), (86, 35), (86, 36), (86, 37), (86, 38), (86, 39)] [96, 109] σ α σ3283 α3284 := qFr_t hF82 hG3286 (by decide) (by decide)
          have hs3288 : 0 ≤ σ3283 86 15 ∧ σ3283 86 15 ≤ 1 := hI3285.1 86 15
          show qr_W (qe L xs vb) (d + 44) qx_e228 _ (138, _, [.int (qz v3280), .int (qz 6), .ref 109], qw σ3283 α3284 κ ρ, 0, 0)
          exact hJ105 _ v3280 σ3283 α3284 g62 g63 g64 g66 g67 hv3280 hI3285 hF3287 ((hG3286.1 86 6 (by decide)).trans ((hG81.1 86 6 (by decide)).trans ((hG41.1 86 6 (by decide)).trans ((hG5.1 86 6 (by decide)).trans rfl))))
        · skip
          refine qr_bipush 129 rfl (by decide) rfl ?_
          refine qr_goto 138 rfl rfl ?_
          exact hJ105 _ 9 σ78 α79 g62 g63 g64 g66 g67 (by decide) hI80 hF82 ((hG81.1 86 6 (by decide)).trans ((hG41.1 86 6 (by decide)).trans ((hG5.1 86 6 (by decide)).trans rfl)))
      refine qr_if_eq 108 104 rfl rfl rfl (qrg hv61 (by decide) (by decide)) (fun h3289 => ?_) (fun h3289 => ?_)
      · skip
        refine qr_iconst 109 rfl rfl ?_
        exact hJ70 _ 0 g22 g23 g24 g25 g26 g27 (by decide)
      · skip
        refine qr_iconst 105 rfl rfl ?_
        refine qr_goto 109 rfl rfl ?_
        exact hJ70 _ 1 g22 g23 g24 g25 g26 g27 (by decide)
    refine qr_icmp_ne 45 40 rfl rfl rfl hv1 (by decide) (fun h3290 => ?_) (fun h3290 => ?_)
    · skip
      refine qr_iload 47 rfl g14 rfl ?_
      exact hJ31 _ v1 g7 g8 g9 g10 g11 g12 g13 hv1
    · skip
      refine qr_bipush 42 rfl (by decide) rfl ?_
      refine qr_goto 47 rfl rfl ?_
      exact hJ31 _ 9 g7 g8 g9 g10 g11 g12 g13 (by decide)
  refine qr_icmp_ne 26 22 rfl rfl rfl hv1 (by decide) (fun h3291 => ?_) (fun h3291 => ?_)
  · skip
    refine qr_iconst 27 rfl rfl ?_
    exact hJ17 _ 1 rfl rfl rfl rfl rfl rfl rfl rfl (by decide)
  · skip
    refine qr_iconst 23 rfl rfl ?_
    refine qr_goto 27 rfl rfl ?_
    exact hJ17 _ 0 rfl rfl rfl rfl rfl rfl rfl rfl (by decide)

set_option maxHeartbeats 4000000 in
set_option maxRecDepth 20000 in
/-- OneRoofModel.mustNow -/
theorem sf_227_86 {L : Nat} {xs : Nat → Int} {vb : Bool} {d : Nat} {σ α : Nat → Nat → Int} {κ : Nat → Option Nat} {ρ : Nat} {x1 : Int} {x2 : Int} {x3 : Int} {x4 : Int} (hI : qI σ α κ ρ) (r1 : 0 ≤ x1 ∧ x1 ≤ 31) (r2 : 0 ≤ x2 ∧ x2 ≤ 31) (r3 : (-9223372036854775808) ≤ x3 ∧ x3 ≤ 9223372036854775807) (r4 : (-2147483648) ≤ x4 ∧ x4 ≤ 2147483647) (p0 : 1 ≤ σ 86 6) : qm_T (qe L xs vb) (d + 46) 227 [.ref 86, .int (qz x1), .int (qz x2), .long (ql x3), .int (qz x4)] (qw σ α κ ρ) (fun r w' => ∃ σ' α', w' = qw σ' α' κ ρ ∧ qI σ' α' κ ρ ∧ qFr [(86, 15), (86, 23), (86, 30), (86, 35), (86, 36), (86, 37), (86, 38), (86, 39)] [96, 109] σ α σ' α' ∧ ∃ v : Int, r = some (.int (qz v)) ∧ ((-2147483648) ≤ v ∧ v ≤ 2147483647)) := by
  refine qr_start (d := d + 45) qv_e227 (Nat.le_of_ble_eq_true rfl) ?_
  show qr_W (qe L xs vb) (d + 45) qx_e227 _ (0, [(0, .ref 86), (1, .int (qz x1)), (2, .int (qz x2)), (3, .long (ql x3)), (5, .int (qz x4))], [], _, 0, 0)
  have hF0 := qFr_rf [(86, 15), (86, 23), (86, 30), (86, 35), (86, 36), (86, 37), (86, 38), (86, 39)] [96, 109] σ α
  have hz86_6 : 0 ≤ σ 86 6 ∧ σ 86 6 ≤ 32 := hI.1 86 6
  refine qr_aload_n 1 rfl rfl rfl ?_
  refine qr_iconst 2 rfl rfl ?_
  refine qr_iload_n 3 rfl rfl rfl ?_
  refine qr_iload_n 4 rfl rfl rfl ?_
  refine qr_iconst 5 rfl rfl ?_
  refine qr_lload_n 6 rfl rfl rfl ?_
  refine qr_iload 8 rfl rfl rfl ?_
  have hs1 : 0 ≤ σ 86 6 ∧ σ 86 6 ≤ 32 := hI.1 86 6
  refine qr_callN 11 rfl rfl rfl (sf_228_86 (d := d + 0) hI (by decide) r1 r2 (by decide) r3 r4 (by omega)) ?_
  rintro _ _ ⟨σ3, α4, rfl, hI5, hG6, v2, rfl, hv2⟩
  have hF7 : qFr [(86, 15), (86, 23), (86, 30), (86, 35), (86, 36), (86, 37), (86, 38), (86, 39)] [96, 109] σ α σ3 α4 := qFr_t hF0 hG6 (by decide) (by decide)
  show qr_W (qe L xs vb) (d + 45) qx_e227 _ (11, _, [.int (qz v2)], qw σ3 α4 κ ρ, 0, 0)
  refine qr_retI rfl rfl (by decide) (by decide) ?_
  exact ⟨_, _, rfl, hI5, hF7, v2, rfl, hv2⟩

set_option maxHeartbeats 4000000 in
set_option maxRecDepth 20000 in
/-- OneRoofModel.must -/
theorem sf_224_86 {L : Nat} {xs : Nat → Int} {vb : Bool} {d : Nat} {σ α : Nat → Nat → Int} {κ : Nat → Option Nat} {ρ : Nat} {x1 : Int} {x2 : Int} {x3 : Int} (hI : qI σ α κ ρ) (r1 : (-2147483648) ≤ x1 ∧ x1 ≤ 2147483647) (r2 : (-9223372036854775808) ≤ x2 ∧ x2 ≤ 9223372036854775807) (r3 : (-2147483648) ≤ x3 ∧ x3 ≤ 2147483647) : qm_T (qe L xs vb) (d + 47) 224 [.ref 86, .int (qz x1), .long (ql x2), .int (qz x3)] (qw σ α κ ρ) (fun r w' => ∃ σ' α', w' = qw σ' α' κ ρ ∧ qI σ' α' κ ρ ∧ qFr [(86, 15), (86, 23), (86, 30), (86, 35), (86, 36), (86, 37), (86, 38), (86, 39)] [96, 109] σ α σ' α' ∧ ∃ v : Int, r = some (.int (qz v)) ∧ ((-2147483648) ≤ v ∧ v ≤ 2147483647)) := by
  refine qr_start (d := d + 46) qv_e224 (Nat.le_of_ble_eq_true rfl) ?_
  show qr_W (qe L xs vb) (d + 46) qx_e224 _ (0, [(0, .ref 86), (1, .int (qz x1)), (2, .long (ql x2)), (4, .int (qz x3))], [], _, 0, 0)
  have hF0 := qFr_rf [(86, 15), (86, 23), (86, 30), (86, 35), (86, 36), (86, 37), (86, 38), (86, 39)] [96, 109] σ α
  refine qr_aload_n 1 rfl rfl rfl ?_
  refine qr_iload_n 2 rfl rfl rfl ?_
  refine qr_callN 5 rfl rfl rfl (sf_191_86 (d := d + 43) hI r1) ?_
  have hs3 : 0 ≤ σ 86 6 ∧ σ 86 6 ≤ 32 := hI.1 86 6
  rintro _ _ ⟨rfl, v1, rfl, hv1, hp2⟩
  show qr_W (qe L xs vb) (d + 46) qx_e224 _ (5, _, [.int (qz v1)], qw σ α κ ρ, 0, 0)
  refine qr_if_eq 24 8 rfl rfl rfl (qrg hv1 (by decide) (by decide)) (fun h4 => ?_) (fun h4 => ?_)
  · skip
    refine qr_ldcw (-2000000000) 27 rfl (by decide) rfl ?_
    refine qr_retI rfl rfl (by decide) (by decide) ?_
    exact ⟨_, _, rfl, hI, hF0, (-2000000000), rfl, (by decide)⟩
  · skip
    refine qr_aload_n 9 rfl rfl rfl ?_
    refine qr_lload_n 10 rfl rfl rfl ?_
    refine qr_callN 13 rfl rfl rfl (sf_225_86 (d := d + 45) hI r2) ?_
    rintro _ _ ⟨rfl, v5, rfl, hv5⟩
    show qr_W (qe L xs vb) (d + 46) qx_e224 _ (13, _, [.int (qz v5)], qw σ α κ ρ, 0, 0)
    refine qr_if_eq 24 16 rfl rfl rfl (qrg hv5 (by decide) (by decide)) (fun h6 => ?_) (fun h6 => ?_)
    · skip
      refine qr_ldcw (-2000000000) 27 rfl (by decide) rfl ?_
      refine qr_retI rfl rfl (by decide) (by decide) ?_
      exact ⟨_, _, rfl, hI, hF0, (-2000000000), rfl, (by decide)⟩
    · skip
      refine qr_iload 18 rfl rfl rfl ?_
      refine qr_callN 21 rfl rfl rfl (sf_192 (d := d + 44) hI r3) ?_
      rintro _ _ ⟨rfl, v7, rfl, hv7, hp8⟩
      show qr_W (qe L xs vb) (d + 46) qx_e224 _ (21, _, [.int (qz v7)], qw σ α κ ρ, 0, 0)
      refine qr_if_ne 28 24 rfl rfl rfl (qrg hv7 (by decide) (by decide)) (fun h9 => ?_) (fun h9 => ?_)
      · skip
        refine qr_lload_n 29 rfl rfl rfl ?_
        refine qr_aload_n 30 rfl rfl rfl ?_
        refine qr_get 33 rfl rfl rfl (by decide) rfl ?_
        have hs10 : (-9223372036854775808) ≤ σ 86 10 ∧ σ 86 10 ≤ 9223372036854775807 := hI.1 86 10
        refine qr_ldc2 (-1) 36 rfl (by decide) rfl ?_
        refine qr_lxor 37 rfl rfl ?_
        refine qy_canl (fun v11 hv11 => ?_)
        refine qr_land 38 rfl rfl ?_
        refine qy_canl (fun v12 hv12 => ?_)
        refine qr_lstore _ 40 rfl (by decide) rfl rfl ?_
        refine qr_lload 42 rfl rfl rfl ?_
        refine qr_iload_n 43 rfl rfl rfl ?_
        refine qr_bipush 45 rfl (by decide) rfl ?_
        refine qr_idiv 46 rfl (by omega) (by decide) rfl ?_
        refine qr_callN 49 rfl rfl rfl (sf_226 (d := d + 45) hI hv12 (by omega)) ?_
        rintro _ _ ⟨rfl, v13, rfl, hv13⟩
        show qr_W (qe L xs vb) (d + 46) qx_e224 _ (49, _, [.int (qz v13)], qw σ α κ ρ, 0, 0)
        refine qr_if_eq 83 52 rfl rfl rfl (qrg hv13 (by decide) (by decide)) (fun h14 => ?_) (fun h14 => ?_)
        · skip
          refine qr_ldcw (-2000000000) 86 rfl (by decide) rfl ?_
          refine qr_retI rfl rfl (by decide) (by decide) ?_
          exact ⟨_, _, rfl, hI, hF0, (-2000000000), rfl, (by decide)⟩
        · skip
          refine qr_lload 54 rfl rfl rfl ?_
          refine qr_iload_n 55 rfl rfl rfl ?_
          refine qr_bipush 57 rfl (by decide) rfl ?_
          refine qr_irem 58 rfl (by omega) (by decide) rfl ?_
          refine qr_callN 61 rfl rfl rfl (sf_226 (d := d + 45) hI hv12 (by omega)) ?_
          rintro _ _ ⟨rfl, v15, rfl, hv15⟩
          show qr_W (qe L xs vb) (d + 46) qx_e224 _ (61, _, [.int (qz v15)], qw σ α κ ρ, 0, 0)
          refine qr_if_eq 83 64 rfl rfl rfl (qrg hv15 (by decide) (by decide)) (fun h16 => ?_) (fun h16 => ?_)
          · skip
            refine qr_ldcw (-2000000000) 86 rfl (by decide) rfl ?_
            refine qr_retI rfl rfl (by decide) (by decide) ?_
            exact ⟨_, _, rfl, hI, hF0, (-2000000000), rfl, (by decide)⟩
          · skip
            refine qr_aload_n 65 rfl rfl rfl ?_
            refine qr_iload_n 66 rfl rfl rfl ?_
            refine qr_bipush 68 rfl (by decide) rfl ?_
            refine qr_idiv 69 rfl (by omega) (by decide) rfl ?_
            refine qr_iload_n 70 rfl rfl rfl ?_
            refine qr_bipush 72 rfl (by decide) rfl ?_
            refine qr_irem 73 rfl (by omega) (by decide) rfl ?_
            refine qr_lload 75 rfl rfl rfl ?_
            refine qr_iload 77 rfl rfl rfl ?_
            have hs17 : 0 ≤ σ 86 6 ∧ σ 86 6 ≤ 32 := hI.1 86 6
            refine qr_callN 80 rfl rfl rfl (sf_227_86 (d := d + 0) hI (by omega) (by omega) hv12 r3 (by omega)) ?_
            rintro _ _ ⟨σ19, α20, rfl, hI21, hG22, v18, rfl, hv18⟩
            have hF23 : qFr [(86, 15), (86, 23), (86, 30), (86, 35), (86, 36), (86, 37), (86, 38), (86, 39)] [96, 109] σ α σ19 α20 := qFr_t hF0 hG22 (by decide) (by decide)
            show qr_W (qe L xs vb) (d + 46) qx_e224 _ (80, _, [.int (qz v18)], qw σ19 α20 κ ρ, 0, 0)
            refine qr_goto 86 rfl rfl ?_
            refine qr_retI rfl rfl (by decide) (by decide) ?_
            exact ⟨_, _, rfl, hI21, hF23, v18, rfl, hv18⟩
      · skip
        refine qr_ldcw (-2000000000) 27 rfl (by decide) rfl ?_
        refine qr_retI rfl rfl (by decide) (by decide) ?_
        exact ⟨_, _, rfl, hI, hF0, (-2000000000), rfl, (by decide)⟩

set_option maxHeartbeats 4000000 in
set_option maxRecDepth 20000 in
/-- OneRoofModel.together -/
theorem sf_229_86 {L : Nat} {xs : Nat → Int} {vb : Bool} {d : Nat} {σ α : Nat → Nat → Int} {κ : Nat → Option Nat} {ρ : Nat} {x1 : Int} {x2 : Int} {x3 : Int} (hI : qI σ α κ ρ) (r1 : (-9223372036854775808) ≤ x1 ∧ x1 ≤ 9223372036854775807) (r2 : (-2147483648) ≤ x2 ∧ x2 ≤ 2147483647) (r3 : (-2147483648) ≤ x3 ∧ x3 ≤ 2147483647) : qm_T (qe L xs vb) (d + 47) 229 [.ref 86, .long (ql x1), .int (qz x2), .int (qz x3)] (qw σ α κ ρ) (fun r w' => ∃ σ' α', w' = qw σ' α' κ ρ ∧ qI σ' α' κ ρ ∧ qFr [(86, 15), (86, 23), (86, 30), (86, 35), (86, 36), (86, 37), (86, 38), (86, 39)] [96, 109] σ α σ' α' ∧ ∃ v : Int, r = some (.int (qz v)) ∧ ((-2147483648) ≤ v ∧ v ≤ 2147483647)) := by
  refine qr_start (d := d + 46) qv_e229 (Nat.le_of_ble_eq_true rfl) ?_
  show qr_W (qe L xs vb) (d + 46) qx_e229 _ (0, [(0, .ref 86), (1, .long (ql x1)), (3, .int (qz x2)), (4, .int (qz x3))], [], _, 0, 0)
  have hF0 := qFr_rf [(86, 15), (86, 23), (86, 30), (86, 35), (86, 36), (86, 37), (86, 38), (86, 39)] [96, 109] σ α
  refine qr_aload_n 1 rfl rfl rfl ?_
  refine qr_lload_n 2 rfl rfl rfl ?_
  refine qr_callN 5 rfl rfl rfl (sf_225_86 (d := d + 45) hI r1) ?_
  rintro _ _ ⟨rfl, v1, rfl, hv1⟩
  show qr_W (qe L xs vb) (d + 46) qx_e229 _ (5, _, [.int (qz v1)], qw σ α κ ρ, 0, 0)
  refine qr_if_eq 28 8 rfl rfl rfl (qrg hv1 (by decide) (by decide)) (fun h2 => ?_) (fun h2 => ?_)
  · skip
    refine qr_iconst 29 rfl rfl ?_
    refine qr_retI rfl rfl (by decide) (by decide) ?_
    exact ⟨_, _, rfl, hI, hF0, (-1), rfl, (by decide)⟩
  · skip
    refine qr_iload_n 9 rfl rfl rfl ?_
    refine qr_callN 12 rfl rfl rfl (sf_230 (d := d + 43) hI r2) ?_
    rintro _ _ ⟨rfl, v3, rfl, hv3, hp4⟩
    show qr_W (qe L xs vb) (d + 46) qx_e229 _ (12, _, [.int (qz v3)], qw σ α κ ρ, 0, 0)
    refine qr_if_eq 28 15 rfl rfl rfl (qrg hv3 (by decide) (by decide)) (fun h5 => ?_) (fun h5 => ?_)
    · skip
      refine qr_iconst 29 rfl rfl ?_
      refine qr_retI rfl rfl (by decide) (by decide) ?_
      exact ⟨_, _, rfl, hI, hF0, (-1), rfl, (by decide)⟩
    · skip
      refine qr_iload 17 rfl rfl rfl ?_
      refine qr_i2l 18 rfl r3 rfl ?_
      refine qr_lconst 19 rfl rfl ?_
      refine qy_vl 0 rfl ?_
      refine qr_ldc2 2 22 rfl (by decide) rfl ?_
      refine qr_callN 25 rfl rfl rfl (sf_176 (d := d + 45) hI (qrg r3 (by decide) (by decide)) (by decide) (by decide)) ?_
      rintro _ _ ⟨rfl, v6, rfl, hv6, hp7⟩
      show qr_W (qe L xs vb) (d + 46) qx_e229 _ (25, _, [.int (qz v6)], qw σ α κ ρ, 0, 0)
      refine qr_if_ne 30 28 rfl rfl rfl (qrg hv6 (by decide) (by decide)) (fun h8 => ?_) (fun h8 => ?_)
      · skip
        refine qr_lload_n 31 rfl rfl rfl ?_
        refine qr_aload_n 32 rfl rfl rfl ?_
        refine qr_get 35 rfl rfl rfl (by decide) rfl ?_
        have hs9 : (-9223372036854775808) ≤ σ 86 10 ∧ σ 86 10 ≤ 9223372036854775807 := hI.1 86 10
        refine qr_ldc2 (-1) 38 rfl (by decide) rfl ?_
        refine qr_lxor 39 rfl rfl ?_
        refine qy_canl (fun v10 hv10 => ?_)
        refine qr_land 40 rfl rfl ?_
        refine qy_canl (fun v11 hv11 => ?_)
        refine qr_lstore _ 42 rfl (by decide) rfl rfl ?_
        refine qr_iload_n 43 rfl rfl rfl ?_
        refine qr_sipush 46 rfl (by decide) rfl ?_
        refine qr_idiv 47 rfl (by omega) (by decide) rfl ?_
        refine qr_istore _ 49 rfl (by decide) rfl rfl ?_
        have hL50281 : ∀ (n : Nat) (ls : qm_L) (u50273 : Int) (σ50274 α50275 : Nat → Nat → Int), 10000 - u50273 < (n : Int) → qm_get ls 0 = some (.ref 86) → qm_get ls 3 = some (.int (qz x2)) → qm_get ls 4 = some (.int (qz x3)) → qm_get ls 5 = some (.long (ql v11)) → qm_get ls 7 = some (.int (qz u50273)) → (0 ≤ u50273 ∧ u50273 ≤ 10000) → qI σ50274 α50275 κ ρ → qFr [(86, 15), (86, 23), (86, 30), (86, 35), (86, 36), (86, 37), (86, 38), (86, 39)] [96, 109] σ α σ50274 α50275 → σ50274 86 10 = (σ 86 10) → (x2 / 10000) ≤ u50273 → qr_W (qe L xs vb) (d + 46) qx_e229 (fun r w' => ∃ σ' α', w' = qw σ' α' κ ρ ∧ qI σ' α' κ ρ ∧ qFr [(86, 15), (86, 23), (86, 30), (86, 35), (86, 36), (86, 37), (86, 38), (86, 39)] [96, 109] σ α σ' α' ∧ ∃ v : Int, r = some (.int (qz v)) ∧ ((-2147483648) ≤ v ∧ v ≤ 2147483647)) (49, ls, [], qw σ50274 α50275 κ ρ, 0, 0) := by
          intro n
          induction n with
          | zero => intro ls u50273 σ50274 α50275 hm g50268 g50269 g50270 g50271 g50272 hf50279 hI50276 hF50277 hk50278 hx50280; exact False.elim (by omega)
          | succ n ih50282 =>
            intro ls u50273 σ50274 α50275 hm g50268 g50269 g50270 g50271 g50272 hf50279 hI50276 hF50277 hk50278 hx50280
            refine qr_iload 51 rfl g50272 rfl ?_
            refine qr_iload_n 52 rfl g50269 rfl ?_
            refine qr_sipush 55 rfl (by decide) rfl ?_
            refine qr_irem 56 rfl (by omega) (by decide) rfl ?_
            refine qr_icmp_gt 167 59 rfl rfl rfl (qrg hf50279 (by decide) (by decide)) (by omega) (fun h50283 => ?_) (fun h50283 => ?_)
            · skip
              refine qr_bipush 169 rfl (by decide) rfl ?_
              refine qr_retI rfl rfl (by decide) (by decide) ?_
              exact ⟨_, _, rfl, hI50276, hF50277, (-2), rfl, (by decide)⟩
            · skip
              refine qr_iconst 60 rfl rfl ?_
              refine qr_istore _ 62 rfl (by decide) rfl rfl ?_
              have hL54218 : ∀ (n : Nat) (ls : qm_L) (u54211 : Int) (σ54212 α54213 : Nat → Nat → Int), 32 - u54211 < (n : Int) → qm_get ls 0 = some (.ref 86) → qm_get ls 3 = some (.int (qz x2)) → qm_get ls 4 = some (.int (qz x3)) → qm_get ls 5 = some (.long (ql v11)) → qm_get ls 7 = some (.int (qz u50273)) → qm_get ls 8 = some (.int (qz u54211)) → (0 ≤ u54211 ∧ u54211 ≤ 32) → qI σ54212 α54213 κ ρ → qFr [(86, 15), (86, 23), (86, 30), (86, 35), (86, 36), (86, 37), (86, 38), (86, 39)] [96, 109] σ α σ54212 α54213 → σ54212 86 10 = (σ 86 10) → qr_W (qe L xs vb) (d + 46) qx_e229 (fun r w' => ∃ σ' α', w' = qw σ' α' κ ρ ∧ qI σ' α' κ ρ ∧ qFr [(86, 15), (86, 23), (86, 30), (86, 35), (86, 36), (86, 37), (86, 38), (86, 39)] [96, 109] σ α σ' α' ∧ ∃ v : Int, r = some (.int (qz v)) ∧ ((-2147483648) ≤ v ∧ v ≤ 2147483647)) (62, ls, [], qw σ54212 α54213 κ ρ, 0, 0) := by
                intro n
                induction n with
                | zero => intro ls u54211 σ54212 α54213 hm g54205 g54206 g54207 g54208 g54209 g54210 hf54217 hI54214 hF54215 hk54216; exact False.elim (by omega)
                | succ n ih54219 =>
                  intro ls u54211 σ54212 α54213 hm g54205 g54206 g54207 g54208 g54209 g54210 hf54217 hI54214 hF54215 hk54216
                  refine qr_iload 64 rfl g54210 rfl ?_
                  refine qr_aload_n 65 rfl g54205 rfl ?_
                  refine qr_get 68 rfl rfl rfl (by decide) rfl ?_
                  have hs54220 : 0 ≤ σ54212 86 6 ∧ σ54212 86 6 ≤ 32 := hI54214.1 86 6
                  refine qr_icmp_ge 161 71 rfl rfl rfl (qrg hf54217 (by decide) (by decide)) (qrg hs54220 (by decide) (by decide)) (fun h54221 => ?_) (fun h54221 => ?_)
                  · skip
                    refine qr_iinc _ 164 rfl g54209 (by decide) rfl rfl ?_
                    refine qr_goto 49 rfl rfl ?_
                    exact ih50282 _ (u50273 + 1) σ54212 α54213 (by omega) (qm_gk g54205 (by decide) (Or.inl (by decide))) (qm_gk g54206 (by decide) (Or.inl (by decide))) (qm_gk g54207 (by decide) (Or.inl (by decide))) (qm_gk g54208 (by decide) (Or.inl (by decide))) (qm_ge _ _ _) (by omega) hI54214 hF54215 ((hk54216).trans rfl) (by omega)
                  · skip
                    refine qr_iconst 72 rfl rfl ?_
                    refine qr_istore _ 74 rfl (by decide) rfl rfl ?_
                    have hL54477 : ∀ (n : Nat) (ls : qm_L) (u54469 : Int) (σ54470 α54471 : Nat → Nat → Int), 32 - u54469 < (n : Int) → qm_get ls 0 = some (.ref 86) → qm_get ls 3 = some (.int (qz x2)) → qm_get ls 4 = some (.int (qz x3)) → qm_get ls 5 = some (.long (ql v11)) → qm_get ls 7 = some (.int (qz u50273)) → qm_get ls 8 = some (.int (qz u54211)) → qm_get ls 9 = some (.int (qz u54469)) → (0 ≤ u54469 ∧ u54469 ≤ 32) → qI σ54470 α54471 κ ρ → qFr [(86, 15), (86, 23), (86, 30), (86, 35), (86, 36), (86, 37), (86, 38), (86, 39)] [96, 109] σ α σ54470 α54471 → σ54470 86 6 = (σ54212 86 6) → σ54470 86 10 = (σ 86 10) → qr_W (qe L xs vb) (d + 46) qx_e229 (fun r w' => ∃ σ' α', w' = qw σ' α' κ ρ ∧ qI σ' α' κ ρ ∧ qFr [(86, 15), (86, 23), (86, 30), (86, 35), (86, 36), (86, 37), (86, 38), (86, 39)] [96, 109] σ α σ' α' ∧ ∃ v : Int, r = some (.int (qz v)) ∧ ((-2147483648) ≤ v ∧ v ≤ 2147483647)) (74, ls, [], qw σ54470 α54471 κ ρ, 0, 0) := by
                      intro n
                      induction n with
                      | zero => intro ls u54469 σ54470 α54471 hm g54462 g54463 g54464 g54465 g54466 g54467 g54468 hf54476 hI54472 hF54473 hk54474 hk54475; exact False.elim (by omega)
                      | succ n ih54478 =>
                        intro ls u54469 σ54470 α54471 hm g54462 g54463 g54464 g54465 g54466 g54467 g54468 hf54476 hI54472 hF54473 hk54474 hk54475
                        refine qr_iload 76 rfl g54468 rfl ?_
                        refine qr_aload_n 77 rfl g54462 rfl ?_
                        refine qr_get 80 rfl rfl rfl (by decide) rfl ?_
                        refine qy_v (σ54212 86 6) ((hk54474).trans rfl) ?_
                        refine qr_icmp_ge 155 83 rfl rfl rfl (qrg hf54476 (by decide) (by decide)) (qrg hs54220 (by decide) (by decide)) (fun h54479 => ?_) (fun h54479 => ?_)
                        · skip
                          refine qr_iinc _ 158 rfl g54467 (by decide) rfl rfl ?_
                          refine qr_goto 62 rfl rfl ?_
                          exact ih54219 _ (u54211 + 1) σ54470 α54471 (by omega) (qm_gk g54462 (by decide) (Or.inl (by decide))) (qm_gk g54463 (by decide) (Or.inl (by decide))) (qm_gk g54464 (by decide) (Or.inl (by decide))) (qm_gk g54465 (by decide) (Or.inl (by decide))) (qm_gk g54466 (by decide) (Or.inr rfl)) (qm_ge _ _ _) (by omega) hI54472 hF54473 ((hk54475).trans rfl)
                        · skip
                          refine qr_lload 85 rfl g54465 rfl ?_
                          refine qr_iload 87 rfl g54467 rfl ?_
                          refine qr_callN 90 rfl rfl rfl (sf_226 (d := d + 45) hI54472 hv11 (qrg hf54217 (by decide) (by decide))) ?_
                          rintro _ _ ⟨rfl, v54480, rfl, hv54480⟩
                          show qr_W (qe L xs vb) (d + 46) qx_e229 _ (90, _, [.int (qz v54480)], qw σ54470 α54471 κ ρ, 0, 0)
                          refine qr_if_eq 155 93 rfl rfl rfl (qrg hv54480 (by decide) (by decide)) (fun h54481 => ?_) (fun h54481 => ?_)
                          · skip
                            refine qr_iinc _ 158 rfl g54467 (by decide) rfl rfl ?_
                            refine qr_goto 62 rfl rfl ?_
                            exact ih54219 _ (u54211 + 1) σ54470 α54471 (by omega) (qm_gk g54462 (by decide) (Or.inl (by decide))) (qm_gk g54463 (by decide) (Or.inl (by decide))) (qm_gk g54464 (by decide) (Or.inl (by decide))) (qm_gk g54465 (by decide) (Or.inl (by decide))) (qm_gk g54466 (by decide) (Or.inr rfl)) (qm_ge _ _ _) (by omega) hI54472 hF54473 ((hk54475).trans rfl)
                          · skip
                            refine qr_iload 95 rfl g54467 rfl ?_
                            refine qr_iload 97 rfl g54468 rfl ?_
                            refine qr_icmp_eq 149 100 rfl rfl rfl (qrg hf54217 (by decide) (by decide)) (qrg hf54476 (by decide) (by decide)) (fun h54482 => ?_) (fun h54482 => ?_)
                            · skip
                              refine qr_iinc _ 152 rfl g54468 (by decide) rfl rfl ?_
                              refine qr_goto 74 rfl rfl ?_
                              exact ih54478 _ (u54469 + 1) σ54470 α54471 (by omega) (qm_gk g54462 (by decide) (Or.inl (by decide))) (qm_gk g54463 (by decide) (Or.inl (by decide))) (qm_gk g54464 (by decide) (Or.inl (by decide))) (qm_gk g54465 (by decide) (Or.inl (by decide))) (qm_gk g54466 (by decide) (Or.inl (by decide))) (qm_gk g54467 (by decide) (Or.inr rfl)) (qm_ge _ _ _) (by omega) hI54472 hF54473 ((hk54474).trans rfl) ((hk54475).trans rfl)
                            · skip
                              refine qr_lload 102 rfl g54465 rfl ?_
                              refine qr_iload 104 rfl g54468 rfl ?_
                              refine qr_callN 107 rfl rfl rfl (sf_226 (d := d + 45) hI54472 hv11 (qrg hf54476 (by decide) (by decide))) ?_
                              rintro _ _ ⟨rfl, v54483, rfl, hv54483⟩
                              show qr_W (qe L xs vb) (d + 46) qx_e229 _ (107, _, [.int (qz v54483)], qw σ54470 α54471 κ ρ, 0, 0)
                              refine qr_if_eq 149 110 rfl rfl rfl (qrg hv54483 (by decide) (by decide)) (fun h54484 => ?_) (fun h54484 => ?_)
                              · skip
                                refine qr_iinc _ 152 rfl g54468 (by decide) rfl rfl ?_
                                refine qr_goto 74 rfl rfl ?_
                                exact ih54478 _ (u54469 + 1) σ54470 α54471 (by omega) (qm_gk g54462 (by decide) (Or.inl (by decide))) (qm_gk g54463 (by decide) (Or.inl (by decide))) (qm_gk g54464 (by decide) (Or.inl (by decide))) (qm_gk g54465 (by decide) (Or.inl (by decide))) (qm_gk g54466 (by decide) (Or.inl (by decide))) (qm_gk g54467 (by decide) (Or.inr rfl)) (qm_ge _ _ _) (by omega) hI54472 hF54473 ((hk54474).trans rfl) ((hk54475).trans rfl)
                              · skip
                                refine qr_aload_n 111 rfl g54462 rfl ?_
                                refine qr_iload 113 rfl g54467 rfl ?_
                                refine qr_iload 115 rfl g54468 rfl ?_
                                refine qr_lload 117 rfl g54465 rfl ?_
                                refine qr_iload 119 rfl g54466 rfl ?_
                                have hs54485 : 0 ≤ σ54470 86 6 ∧ σ54470 86 6 ≤ 32 := hI54472.1 86 6
                                have hs54486 : σ54470 86 6 = (σ54212 86 6) := (hk54474).trans rfl
                                refine qr_callN 122 rfl rfl rfl (sf_227_86 (d := d + 0) hI54472 (by omega) (by omega) hv11 (qrg hf50279 (by decide) (by decide)) (by omega)) ?_
                                rintro _ _ ⟨σ54488, α54489, rfl, hI54490, hG54491, v54487, rfl, hv54487⟩
                                have hF54492 : qFr [(86, 15), (86, 23), (86, 30), (86, 35), (86, 36), (86, 37), (86, 38), (86, 39)] [96, 109] σ α σ54488 α54489 := qFr_t hF54473 hG54491 (by decide) (by decide)
                                show qr_W (qe L xs vb) (d + 46) qx_e229 _ (122, _, [.int (qz v54487)], qw σ54488 α54489 κ ρ, 0, 0)
                                refine qr_if_eq 149 125 rfl rfl rfl hv54487 (fun h54493 => ?_) (fun h54493 => ?_)
                                · skip
                                  refine qr_iinc _ 152 rfl g54468 (by decide) rfl rfl ?_
                                  refine qr_goto 74 rfl rfl ?_
                                  exact ih54478 _ (u54469 + 1) σ54488 α54489 (by omega) (qm_gk g54462 (by decide) (Or.inl (by decide))) (qm_gk g54463 (by decide) (Or.inl (by decide))) (qm_gk g54464 (by decide) (Or.inl (by decide))) (qm_gk g54465 (by decide) (Or.inl (by decide))) (qm_gk g54466 (by decide) (Or.inl (by decide))) (qm_gk g54467 (by decide) (Or.inr rfl)) (qm_ge _ _ _) (by omega) hI54490 hF54492 ((hG54491.1 86 6 (by decide)).trans ((hk54474).trans rfl)) ((hG54491.1 86 10 (by decide)).trans ((hk54475).trans rfl))
                                · skip
                                  refine qr_iload 127 rfl g54464 rfl ?_
                                  refine qr_if_ne 135 130 rfl rfl rfl r3 (fun h54494 => ?_) (fun h54494 => ?_)
                                  · skip
                                    refine qr_iload 137 rfl g54464 rfl ?_
                                    refine qr_iconst 138 rfl rfl ?_
                                    refine qr_icmp_ne 146 141 rfl rfl rfl r3 (by decide) (fun h54495 => ?_) (fun h54495 => ?_)
                                    · skip
                                      refine qr_iload 148 rfl g54468 rfl ?_
                                      refine qr_retI rfl rfl (by decide) (by decide) ?_
                                      exact ⟨_, _, rfl, hI54490, hF54492, u54469, rfl, (qrg hf54476 (by decide) (by decide))⟩
                                    · skip
                                      refine qr_iload 143 rfl g54467 rfl ?_
                                      refine qr_goto 148 rfl rfl ?_
                                      refine qr_retI rfl rfl (by decide) (by decide) ?_
                                      exact ⟨_, _, rfl, hI54490, hF54492, u54211, rfl, (qrg hf54217 (by decide) (by decide))⟩
                                  · skip
                                    refine qr_iload 132 rfl g54466 rfl ?_
                                    refine qr_goto 148 rfl rfl ?_
                                    refine qr_retI rfl rfl (by decide) (by decide) ?_
                                    exact ⟨_, _, rfl, hI54490, hF54492, u50273, rfl, (qrg hf50279 (by decide) (by decide))⟩
                    exact hL54477 ((32 - 0 + 1 : Int)).toNat _ 0 σ54212 α54213 (by omega) (qm_gk g54205 (by decide) (Or.inl (by decide))) (qm_gk g54206 (by decide) (Or.inl (by decide))) (qm_gk g54207 (by decide) (Or.inl (by decide))) (qm_gk g54208 (by decide) (Or.inl (by decide))) (qm_gk g54209 (by decide) (Or.inl (by decide))) (qm_gk g54210 (by decide) (Or.inr rfl)) (qm_ge _ _ _) (by decide) hI54214 hF54215 (rfl) ((hk54216).trans rfl)
              exact hL54218 ((32 - 0 + 1 : Int)).toNat _ 0 σ50274 α50275 (by omega) (qm_gk g50268 (by decide) (Or.inl (by decide))) (qm_gk g50269 (by decide) (Or.inl (by decide))) (qm_gk g50270 (by decide) (Or.inl (by decide))) (qm_gk g50271 (by decide) (Or.inl (by decide))) (qm_gk g50272 (by decide) (Or.inr rfl)) (qm_ge _ _ _) (by decide) hI50276 hF50277 ((hk50278).trans rfl)
        exact hL50281 ((10000 - (x2 / 10000) + 1 : Int)).toNat _ (x2 / 10000) σ α (by omega) rfl rfl rfl rfl rfl (by omega) hI hF0 (rfl) (by omega)
      · skip
        refine qr_iconst 29 rfl rfl ?_
        refine qr_retI rfl rfl (by decide) (by decide) ?_
        exact ⟨_, _, rfl, hI, hF0, (-1), rfl, (by decide)⟩

set_option maxHeartbeats 4000000 in
set_option maxRecDepth 20000 in
/-- OneRoofModel.doBar -/
theorem sf_232_86 {L : Nat} {xs : Nat → Int} {vb : Bool} {d : Nat} {σ α : Nat → Nat → Int} {κ : Nat → Option Nat} {ρ : Nat} {x1 : Int} {x2 : Int} {x3 : Int} (hI : qI σ α κ ρ) (r1 : 0 ≤ x1 ∧ x1 ≤ 31) (r2 : 0 ≤ x2 ∧ x2 ≤ 31) (r3 : 0 ≤ x3 ∧ x3 ≤ 23999999) (p0 : 1 ≤ σ 86 6) : qm_T (qe L xs vb) (d + 47) 232 [.ref 86, .int (qz x1), .int (qz x2), .int (qz x3)] (qw σ α κ ρ) (fun r w' => ∃ σ' α', w' = qw σ' α' κ ρ ∧ qI σ' α' κ ρ ∧ qFr [(86, 15), (86, 23), (86, 30), (86, 35), (86, 36), (86, 37), (86, 38), (86, 39), (86, 41)] [96, 109] σ α σ' α' ∧ ∃ v : Int, r = some (.int (qz v)) ∧ (0 ≤ v ∧ v ≤ 1)) := by
  refine qr_start (d := d + 46) qv_e232 (Nat.le_of_ble_eq_true rfl) ?_
  show qr_W (qe L xs vb) (d + 46) qx_e232 _ (0, [(0, .ref 86), (1, .int (qz x1)), (2, .int (qz x2)), (3, .int (qz x3))], [], _, 0, 0)
  have hF0 := qFr_rf [(86, 15), (86, 23), (86, 30), (86, 35), (86, 36), (86, 37), (86, 38), (86, 39), (86, 41)] [96, 109] σ α
  have hz86_6 : 0 ≤ σ 86 6 ∧ σ 86 6 ≤ 32 := hI.1 86 6
  refine qr_lconst 1 rfl rfl ?_
  refine qy_vl 1 rfl ?_
  refine qr_iload_n 2 rfl rfl rfl ?_
  refine qr_lshl 3 rfl rfl ?_
  refine qy_canl (fun v1 hv1 => ?_)
  refine qr_lconst 4 rfl rfl ?_
  refine qy_vl 1 rfl ?_
  refine qr_iload_n 5 rfl rfl rfl ?_
  refine qr_lshl 6 rfl rfl ?_
  refine qy_canl (fun v2 hv2 => ?_)
  refine qr_lor 7 rfl rfl ?_
  refine qy_canl (fun v3 hv3 => ?_)
  refine qr_lstore _ 9 rfl (by decide) rfl rfl ?_
  refine qr_iconst 10 rfl rfl ?_
  refine qr_istore _ 12 rfl (by decide) rfl rfl ?_
  refine qr_aload_n 13 rfl rfl rfl ?_
  refine qr_iconst 14 rfl rfl ?_
  refine qr_put 17 rfl (by decide) rfl (Nat.le_of_ble_eq_true rfl) (Nat.le_of_ble_eq_true rfl) (Or.inl rfl) (qr_fitZ rfl (Or.inr rfl)) rfl ?_
  refine qy_wS (qw_s σ 86 41 1) rfl (fun σ4 e5 => ?_)
  have hI6 : qI σ4 α κ ρ := by rw [e5]; exact qI_s hI 86 41 rfl (show 0 ≤ 1 ∧ 1 ≤ 1 by omega)
  have hF7 : qFr [(86, 15), (86, 23), (86, 30), (86, 35), (86, 36), (86, 37), (86, 38), (86, 39), (86, 41)] [96, 109] σ α σ4 α := by rw [e5]; exact qFr_s hF0 86 41 _ (by decide)
  refine qr_iload_n 18 rfl rfl rfl ?_
  refine qr_sipush 21 rfl (by decide) rfl ?_
  refine qr_idiv 22 rfl (qrg r3 (by decide) (by decide)) (by decide) rfl ?_
  refine qr_istore _ 24 rfl (by decide) rfl rfl ?_
  have hL634 : ∀ (n : Nat) (ls : qm_L) (u622 u624 : Int) (σ625 α626 : Nat → Nat → Int), 10000 - u624 < (n : Int) → qm_get ls 0 = some (.ref 86) → qm_get ls 1 = some (.int (qz x1)) → qm_get ls 2 = some (.int (qz x2)) → qm_get ls 3 = some (.int (qz x3)) → qm_get ls 4 = some (.long (ql v3)) → qm_get ls 6 = some (.int (qz u622)) → qm_get ls 7 = some (.int (qz u624)) → (0 ≤ u622 ∧ u622 ≤ 1) → (0 ≤ u624 ∧ u624 ≤ 10000) → qI σ625 α626 κ ρ → qFr [(86, 15), (86, 23), (86, 30), (86, 35), (86, 36), (86, 37), (86, 38), (86, 39), (86, 41)] [96, 109] σ α σ625 α626 → σ625 86 6 = (σ 86 6) → σ625 86 41 = 1 → (x3 / 10000) ≤ u624 → qr_W (qe L xs vb) (d + 46) qx_e232 (fun r w' => ∃ σ' α', w' = qw σ' α' κ ρ ∧ qI σ' α' κ ρ ∧ qFr [(86, 15), (86, 23), (86, 30), (86, 35), (86, 36), (86, 37), (86, 38), (86, 39), (86, 41)] [96, 109] σ α σ' α' ∧ ∃ v : Int, r = some (.int (qz v)) ∧ (0 ≤ v ∧ v ≤ 1)) (24, ls, [], qw σ625 α626 κ ρ, 0, 0) := by
    intro n
    induction n with
    | zero => intro ls u622 u624 σ625 α626 hm g616 g617 g618 g619 g620 g621 g623 hf631 hf632 hI627 hF628 hk629 hk630 hx633; exact False.elim (by omega)
    | succ n ih635 =>
      intro ls u622 u624 σ625 α626 hm g616 g617 g618 g619 g620 g621 g623 hf631 hf632 hI627 hF628 hk629 hk630 hx633
      refine qr_iload 26 rfl g623 rfl ?_
      refine qr_iload_n 27 rfl g619 rfl ?_
      refine qr_sipush 30 rfl (by decide) rfl ?_
      refine qr_irem 31 rfl (qrg r3 (by decide) (by decide)) (by decide) rfl ?_
      refine qr_icmp_gt 78 34 rfl rfl rfl (qrg hf632 (by decide) (by decide)) (by omega) (fun h636 => ?_) (fun h636 => ?_)
      · skip
        refine qr_aload_n 79 rfl g616 rfl ?_
        refine qr_iconst 80 rfl rfl ?_
        refine qr_put 83 rfl (by decide) rfl (Nat.le_of_ble_eq_true rfl) (Nat.le_of_ble_eq_true rfl) (Or.inl rfl) (qr_fitZ rfl (Or.inl rfl)) rfl ?_
        refine qy_wS (qw_s σ625 86 41 0) rfl (fun σ637 e638 => ?_)
        have hI639 : qI σ637 α626 κ ρ := by rw [e638]; exact qI_s hI627 86 41 rfl (show 0 ≤ 0 ∧ 0 ≤ 1 by omega)
        have hF640 : qFr [(86, 15), (86, 23), (86, 30), (86, 35), (86, 36), (86, 37), (86, 38), (86, 39), (86, 41)] [96, 109] σ α σ637 α626 := by rw [e638]; exact qFr_s hF628 86 41 _ (by decide)
        refine qr_iload 85 rfl g621 rfl ?_
        refine qr_retZ rfl rfl (by omega) (by decide) (by decide) ?_
        exact ⟨_, _, rfl, hI639, hF640, u622, rfl, hf631⟩
      · skip
        refine qr_iload 36 rfl g621 rfl ?_
        refine qr_if_ne 78 39 rfl rfl rfl (qrg hf631 (by decide) (by decide)) (fun h641 => ?_) (fun h641 => ?_)
        · skip
          refine qr_aload_n 79 rfl g616 rfl ?_
          refine qr_iconst 80 rfl rfl ?_
          refine qr_put 83 rfl (by decide) rfl (Nat.le_of_ble_eq_true rfl) (Nat.le_of_ble_eq_true rfl) (Or.inl rfl) (qr_fitZ rfl (Or.inl rfl)) rfl ?_
          refine qy_wS (qw_s σ625 86 41 0) rfl (fun σ642 e643 => ?_)
          have hI644 : qI σ642 α626 κ ρ := by rw [e643]; exact qI_s hI627 86 41 rfl (show 0 ≤ 0 ∧ 0 ≤ 1 by omega)
          have hF645 : qFr [(86, 15), (86, 23), (86, 30), (86, 35), (86, 36), (86, 37), (86, 38), (86, 39), (86, 41)] [96, 109] σ α σ642 α626 := by rw [e643]; exact qFr_s hF628 86 41 _ (by decide)
          refine qr_iload 85 rfl g621 rfl ?_
          refine qr_retZ rfl rfl (by omega) (by decide) (by decide) ?_
          exact ⟨_, _, rfl, hI644, hF645, u622, rfl, hf631⟩
        · skip
          refine qr_aload_n 40 rfl g616 rfl ?_
          refine qr_iload_n 41 rfl g617 rfl ?_
          refine qr_iload_n 42 rfl g618 rfl ?_
          refine qr_lload 44 rfl g620 rfl ?_
          refine qr_iload 46 rfl g623 rfl ?_
          have hs646 : 0 ≤ σ625 86 6 ∧ σ625 86 6 ≤ 32 := hI627.1 86 6
          have hs647 : σ625 86 6 = (σ 86 6) := (hk629).trans rfl
          refine qr_callN 49 rfl rfl rfl (sf_227_86 (d := d + 0) hI627 r1 r2 hv3 (qrg hf632 (by decide) (by decide)) (by omega)) ?_
          rintro _ _ ⟨σ649, α650, rfl, hI651, hG652, v648, rfl, hv648⟩
          have hF653 : qFr [(86, 15), (86, 23), (86, 30), (86, 35), (86, 36), (86, 37), (86, 38), (86, 39), (86, 41)] [96, 109] σ α σ649 α650 := qFr_t hF628 hG652 (by decide) (by decide)
          show qr_W (qe L xs vb) (d + 46) qx_e232 _ (49, _, [.int (qz v648)], qw σ649 α650 κ ρ, 0, 0)
          have hJ676 : ∀ (ls : qm_L) (u668 : Int) (σ669 α670 : Nat → Nat → Int), qm_get ls 0 = some (.ref 86) → qm_get ls 1 = some (.int (qz x1)) → qm_get ls 2 = some (.int (qz x2)) → qm_get ls 3 = some (.int (qz x3)) → qm_get ls 4 = some (.long (ql v3)) → qm_get ls 7 = some (.int (qz u624)) → (0 ≤ u668 ∧ u668 ≤ 1) → qI σ669 α670 κ ρ → qFr [(86, 15), (86, 23), (86, 30), (86, 35), (86, 36), (86, 37), (86, 38), (86, 39), (86, 41)] [96, 109] σ α σ669 α670 → σ669 86 6 = (σ 86 6) → σ669 86 41 = 1 → qr_W (qe L xs vb) (d + 46) qx_e232 (fun r w' => ∃ σ' α', w' = qw σ' α' κ ρ ∧ qI σ' α' κ ρ ∧ qFr [(86, 15), (86, 23), (86, 30), (86, 35), (86, 36), (86, 37), (86, 38), (86, 39), (86, 41)] [96, 109] σ α σ' α' ∧ ∃ v : Int, r = some (.int (qz v)) ∧ (0 ≤ v ∧ v ≤ 1)) (70, ls, [.int (qz u668)], qw σ669 α670 κ ρ, 0, 0) := by
            intro ls u668 σ669 α670 g662 g663 g664 g665 g666 g667 hf675 hI671 hF672 hk673 hk674
            refine qr_istore _ 72 rfl (by decide) rfl rfl ?_
            refine qr_iinc _ 75 rfl (qm_gk g667 (by decide) (Or.inl (by decide))) (by decide) rfl rfl ?_
            refine qr_goto 24 rfl rfl ?_
            exact ih635 _ u668 (u624 + 1) σ669 α670 (by omega) (qm_gk (qm_gk g662 (by decide) (Or.inl (by decide))) (by decide) (Or.inl (by decide))) (qm_gk (qm_gk g663 (by decide) (Or.inl (by decide))) (by decide) (Or.inl (by decide))) (qm_gk (qm_gk g664 (by decide) (Or.inl (by decide))) (by decide) (Or.inl (by decide))) (qm_gk (qm_gk g665 (by decide) (Or.inl (by decide))) (by decide) (Or.inl (by decide))) (qm_gk (qm_gk g666 (by decide) (Or.inl (by decide))) (by decide) (Or.inl (by decide))) (qm_gk (qm_ge _ _ _) (by decide) (Or.inr rfl)) (qm_ge _ _ _) hf675 (by omega) hI671 hF672 ((hk673).trans rfl) ((hk674).trans rfl) (by omega)
          refine qr_if_ne 65 52 rfl rfl rfl hv648 (fun h677 => ?_) (fun h677 => ?_)
          · skip
            refine qr_iconst 66 rfl rfl ?_
            refine qr_goto 70 rfl rfl ?_
            exact hJ676 _ 1 σ649 α650 g616 g617 g618 g619 g620 g623 (by decide) hI651 hF653 ((hG652.1 86 6 (by decide)).trans ((hk629).trans rfl)) ((hG652.1 86 41 (by decide)).trans ((hk630).trans rfl))
          · skip
            refine qr_aload_n 53 rfl g616 rfl ?_
            refine qr_iload_n 54 rfl g618 rfl ?_
            refine qr_iload_n 55 rfl g617 rfl ?_
            refine qr_lload 57 rfl g620 rfl ?_
            refine qr_iload 59 rfl g623 rfl ?_
            have hs678 : 0 ≤ σ649 86 6 ∧ σ649 86 6 ≤ 32 := hI651.1 86 6
            have hs679 : σ649 86 6 = (σ 86 6) := (hG652.1 86 6 (by decide)).trans ((hk629).trans rfl)
            refine qr_callN 62 rfl rfl rfl (sf_227_86 (d := d + 0) hI651 r2 r1 hv3 (qrg hf632 (by decide) (by decide)) (by omega)) ?_
            rintro _ _ ⟨σ681, α682, rfl, hI683, hG684, v680, rfl, hv680⟩
            have hF685 : qFr [(86, 15), (86, 23), (86, 30), (86, 35), (86, 36), (86, 37), (86, 38), (86, 39), (86, 41)] [96, 109] σ α σ681 α682 := qFr_t hF653 hG684 (by decide) (by decide)
            show qr_W (qe L xs vb) (d + 46) qx_e232 _ (62, _, [.int (qz v680)], qw σ681 α682 κ ρ, 0, 0)
            refine qr_if_eq 69 65 rfl rfl rfl hv680 (fun h686 => ?_) (fun h686 => ?_)
            · skip
              refine qr_iconst 70 rfl rfl ?_
              exact hJ676 _ 0 σ681 α682 g616 g617 g618 g619 g620 g623 (by decide) hI683 hF685 ((hG684.1 86 6 (by decide)).trans ((hG652.1 86 6 (by decide)).trans ((hk629).trans rfl))) ((hG684.1 86 41 (by decide)).trans ((hG652.1 86 41 (by decide)).trans ((hk630).trans rfl)))
            · skip
              refine qr_iconst 66 rfl rfl ?_
              refine qr_goto 70 rfl rfl ?_
              exact hJ676 _ 1 σ681 α682 g616 g617 g618 g619 g620 g623 (by decide) hI683 hF685 ((hG684.1 86 6 (by decide)).trans ((hG652.1 86 6 (by decide)).trans ((hk629).trans rfl))) ((hG684.1 86 41 (by decide)).trans ((hG652.1 86 41 (by decide)).trans ((hk630).trans rfl)))
  exact hL634 ((10000 - (x3 / 10000) + 1 : Int)).toNat _ 0 (x3 / 10000) σ4 α (by omega) rfl rfl rfl rfl rfl rfl rfl (by decide) (by omega) hI6 hF7 ((congrFun (congrFun e5 86) 6).trans rfl) ((congrFun (congrFun e5 86) 41).trans rfl) (by omega)

set_option maxHeartbeats 4000000 in
set_option maxRecDepth 20000 in
/-- OneRoofModel.bars -/
theorem sf_231_86 {L : Nat} {xs : Nat → Int} {vb : Bool} {d : Nat} {σ α : Nat → Nat → Int} {κ : Nat → Option Nat} {ρ : Nat} {x1 : Int} {x2 : Int} (hI : qI σ α κ ρ) (r1 : (-2147483648) ≤ x1 ∧ x1 ≤ 2147483647) (r2 : (-2147483648) ≤ x2 ∧ x2 ≤ 2147483647) : qm_T (qe L xs vb) (d + 48) 231 [.ref 86, .int (qz x1), .int (qz x2)] (qw σ α κ ρ) (fun r w' => ∃ σ' α', w' = qw σ' α' κ ρ ∧ qI σ' α' κ ρ ∧ qFr [(86, 15), (86, 23), (86, 30), (86, 35), (86, 36), (86, 37), (86, 38), (86, 39), (86, 41)] [96, 109] σ α σ' α' ∧ ∃ v : Int, r = some (.int (qz v)) ∧ ((-2147483648) ≤ v ∧ v ≤ 2147483647)) := by
  refine qr_start (d := d + 47) qv_e231 (Nat.le_of_ble_eq_true rfl) ?_
  show qr_W (qe L xs vb) (d + 47) qx_e231 _ (0, [(0, .ref 86), (1, .int (qz x1)), (2, .int (qz x2))], [], _, 0, 0)
  have hF0 := qFr_rf [(86, 15), (86, 23), (86, 30), (86, 35), (86, 36), (86, 37), (86, 38), (86, 39), (86, 41)] [96, 109] σ α
  refine qr_aload_n 1 rfl rfl rfl ?_
  refine qr_iload_n 2 rfl rfl rfl ?_
  refine qr_callN 5 rfl rfl rfl (sf_191_86 (d := d + 44) hI r1) ?_
  have hs3 : 0 ≤ σ 86 6 ∧ σ 86 6 ≤ 32 := hI.1 86 6
  rintro _ _ ⟨rfl, v1, rfl, hv1, hp2⟩
  show qr_W (qe L xs vb) (d + 47) qx_e231 _ (5, _, [.int (qz v1)], qw σ α κ ρ, 0, 0)
  refine qr_if_eq 15 8 rfl rfl rfl (qrg hv1 (by decide) (by decide)) (fun h4 => ?_) (fun h4 => ?_)
  · skip
    refine qr_iconst 16 rfl rfl ?_
    refine qr_retI rfl rfl (by decide) (by decide) ?_
    exact ⟨_, _, rfl, hI, hF0, (-1), rfl, (by decide)⟩
  · skip
    refine qr_iload_n 9 rfl rfl rfl ?_
    refine qr_callN 12 rfl rfl rfl (sf_230 (d := d + 44) hI r2) ?_
    rintro _ _ ⟨rfl, v5, rfl, hv5, hp6⟩
    show qr_W (qe L xs vb) (d + 47) qx_e231 _ (12, _, [.int (qz v5)], qw σ α κ ρ, 0, 0)
    refine qr_if_ne 17 15 rfl rfl rfl (qrg hv5 (by decide) (by decide)) (fun h7 => ?_) (fun h7 => ?_)
    · skip
      refine qr_aload_n 18 rfl rfl rfl ?_
      refine qr_iload_n 19 rfl rfl rfl ?_
      refine qr_bipush 21 rfl (by decide) rfl ?_
      refine qr_idiv 22 rfl (by omega) (by decide) rfl ?_
      refine qr_iload_n 23 rfl rfl rfl ?_
      refine qr_bipush 25 rfl (by decide) rfl ?_
      refine qr_irem 26 rfl (by omega) (by decide) rfl ?_
      refine qr_iload_n 27 rfl rfl rfl ?_
      have hs8 : 0 ≤ σ 86 6 ∧ σ 86 6 ≤ 32 := hI.1 86 6
      refine qr_callN 30 rfl rfl rfl (sf_232_86 (d := d + 0) hI (by omega) (by omega) (by omega) (by omega)) ?_
      rintro _ _ ⟨σ10, α11, rfl, hI12, hG13, v9, rfl, hv9⟩
      have hF14 : qFr [(86, 15), (86, 23), (86, 30), (86, 35), (86, 36), (86, 37), (86, 38), (86, 39), (86, 41)] [96, 109] σ α σ10 α11 := qFr_t hF0 hG13 (by decide) (by decide)
      show qr_W (qe L xs vb) (d + 47) qx_e231 _ (30, _, [.int (qz v9)], qw σ10 α11 κ ρ, 0, 0)
      refine qr_if_eq 37 33 rfl rfl rfl (qrg hv9 (by decide) (by decide)) (fun h15 => ?_) (fun h15 => ?_)
      · skip
        refine qr_iconst 38 rfl rfl ?_
        refine qr_retI rfl rfl (by decide) (by decide) ?_
        exact ⟨_, _, rfl, hI12, hF14, 0, rfl, (by decide)⟩
      · skip
        refine qr_iconst 34 rfl rfl ?_
        refine qr_goto 38 rfl rfl ?_
        refine qr_retI rfl rfl (by decide) (by decide) ?_
        exact ⟨_, _, rfl, hI12, hF14, 1, rfl, (by decide)⟩
    · skip
      refine qr_iconst 16 rfl rfl ?_
      refine qr_retI rfl rfl (by decide) (by decide) ?_
      exact ⟨_, _, rfl, hI, hF0, (-1), rfl, (by decide)⟩
