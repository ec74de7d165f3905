/-! the ties of both sides, from call to call -/
theorem qpl_mono {f : Nat → Int} {b len i : Int} : ∀ (n : Nat) (c s : Int) (L W : Nat → Int), s ≤ (qpl f b len i n c s L W).2.1 := by
  intro n
  induction n with
  | zero => intro c s L W; rw [qpl_0 rfl]; exact Int.le_refl _
  | succ n ih =>
    intro c s L W
    by_cases h : qpc f b len i c s
    · rw [qpl_go h rfl]
      have := ih (c + 1) (s + 1) (qzu L s.toNat (qpa f b (i + 3 * c))) (qzu W s.toNat (qpa f b (i + 3 * c + 1)))
      omega
    · rw [qpl_stop h]; exact Int.le_refl _
theorem qR2_up {S : List (Nat × Nat)} {R : List Nat} {σ α σ' α' : Nat → Nat → Int} (hG : qFr S R σ α σ' α') (hs : [(23, 1), (86, 11)].all (fun x => !S.contains x) = true) (hr : [24, 94, 95].all (fun x => !R.contains x) = true) (h6 : σ 86 6 ≤ σ' 86 6) (h : qR2 σ α) : qR2 σ' α' := by
  have es : ∀ a k, (a, k) ∈ [(23, 1), (86, 11)] → σ' a k = σ a k := fun a k hm => hG.1 a k (fun hn => by
    have h1 := List.all_eq_true.mp hs (a, k) hm
    rw [List.contains_iff_mem.mpr hn] at h1
    exact absurd h1 (by decide))
  have er : ∀ a, a ∈ [24, 94, 95] → α' a = α a := fun a hm => hG.2 a (fun hn => by
    have h1 := List.all_eq_true.mp hr a hm
    rw [List.contains_iff_mem.mpr hn] at h1
    exact absurd h1 (by decide))
  obtain ⟨r1, r2, r3⟩ := h
  unfold qR2 qE
  rw [es 23 1 (by decide), es 86 11 (by decide), er 24 (by decide), er 94 (by decide), er 95 (by decide)]
  exact ⟨r1, fun j hj => by have := r2 j hj; omega, r3⟩
theorem qR2_fr {S : List (Nat × Nat)} {R : List Nat} {σ α σ' α' : Nat → Nat → Int} (hG : qFr S R σ α σ' α') (hs : [(23, 1), (86, 11), (86, 6)].all (fun x => !S.contains x) = true) (hr : [24, 94, 95].all (fun x => !R.contains x) = true) (h : qR2 σ α) : qR2 σ' α' := by
  have e6 : σ' 86 6 = σ 86 6 := hG.1 86 6 (fun hn => by
    have h1 := List.all_eq_true.mp hs (86, 6) (by decide)
    rw [List.contains_iff_mem.mpr hn] at h1
    exact absurd h1 (by decide))
  refine qR2_up hG ?_ hr (by omega) h
  rw [List.all_eq_true] at hs ⊢
  exact fun x hx => hs x (by revert x; decide)
theorem qR2_wd {S : List (Nat × Nat)} {R : List Nat} {σ α σ' α' : Nat → Nat → Int} (hG : qFr S R σ α σ' α') (hs : [(23, 1), (86, 6)].all (fun x => !S.contains x) = true) (hr : [24].all (fun x => !R.contains x) = true) (h11 : σ' 86 11 = σ 86 11) (hx : ∀ j : Nat, (j : Int) < σ 86 11 → α' 94 j = α 94 j ∧ α' 95 j = α 95 j) (h : qR2 σ α) : qR2 σ' α' := by
  have es : ∀ a k, (a, k) ∈ [(23, 1), (86, 6)] → σ' a k = σ a k := fun a k hm => hG.1 a k (fun hn => by
    have h1 := List.all_eq_true.mp hs (a, k) hm
    rw [List.contains_iff_mem.mpr hn] at h1
    exact absurd h1 (by decide))
  have er : ∀ a, a ∈ [24] → α' a = α a := fun a hm => hG.2 a (fun hn => by
    have h1 := List.all_eq_true.mp hr a hm
    rw [List.contains_iff_mem.mpr hn] at h1
    exact absurd h1 (by decide))
  obtain ⟨r1, r2, r3⟩ := h
  unfold qR2 qE
  rw [es 23 1 (by decide), es 86 6 (by decide), h11, er 24 (by decide)]
  refine ⟨r1, fun j hj => ?_, fun x y h1 h2 => qDi_cg (fun k hk => (hx k hk).1) (fun k hk => (hx k hk).2) (r3 x y h1 h2)⟩
  rw [(hx j hj).1, (hx j hj).2]
  exact r2 j hj

set_option maxHeartbeats 4000000 in
set_option maxRecDepth 20000 in
/-- OneRoofModel.wed -/
theorem sf_254_86x {L : Nat} {xs : Nat → Int} {vb : Bool} {d : Nat} {σ α : Nat → Nat → Int} {κ : Nat → Option Nat} {ρ : Nat} {x1 : Int} {x2 : Int} {x3 : Int} (hI : qI σ α κ ρ) (r1 : (-2147483648) ≤ x1 ∧ x1 ≤ 2147483647) (r2 : (-2147483648) ≤ x2 ∧ x2 ≤ 2147483647) (r3 : (-2147483648) ≤ x3 ∧ x3 ≤ 2147483647) (p0 : σ 86 11 ≤ 60) : qm_T (qe L xs vb) (d + 6) 254 [.ref 86, .int (qz x1), .int (qz x2), .int (qz x3)] (qw σ α κ ρ) (fun r w' => ∃ σ' α', w' = qw σ' α' κ ρ ∧ qI σ' α' κ ρ ∧ qFr [(86, 11), (86, 15), (86, 23)] [94, 95, 96, 119] σ α σ' α' ∧ σ' 86 11 = σ 86 11 ∧ ∃ v : Int, r = some (.int (qz v)) ∧ ((-2147483648) ≤ v ∧ v ≤ 2147483647) ∧ (∀ j : Nat, (j : Int) < σ 86 11 → α' 94 j = α 94 j ∧ α' 95 j = α 95 j)) := by
  refine qr_start (d := d + 5) qv_e254 (Nat.le_of_ble_eq_true rfl) ?_
  show qr_W (qe L xs vb) (d + 5) qx_e254 _ (0, [(0, .ref 86), (1, .int (qz x1)), (2, .int (qz x2)), (3, .int (qz x3))], [], _, 0, 0)
  have hF0 := qFr_rf [(86, 11), (86, 15), (86, 23)] [94, 95, 96, 119] σ α
  have hz86_11 : 0 ≤ σ 86 11 ∧ σ 86 11 ≤ 61 := hI.1 86 11
  refine qr_aload_n 1 rfl rfl rfl ?_
  refine qr_iload_n 2 rfl rfl rfl ?_
  refine qr_callN 5 rfl rfl rfl (sf_191_86 (d := d + 2) hI (by omega)) ?_
  have hs3 : 0 ≤ σ 86 6 ∧ σ 86 6 ≤ 32 := hI.1 86 6
  rintro _ _ ⟨rfl, v1, rfl, hv1, hp2⟩
  show qr_W (qe L xs vb) (d + 5) qx_e254 _ (5, _, [.int (qz v1)], qw σ α κ ρ, 0, 0)
  refine qr_if_eq 40 8 rfl rfl rfl (by omega) (fun h4 => ?_) (fun h4 => ?_)
  · skip
    refine qr_iconst 41 rfl rfl ?_
    refine qr_retI rfl rfl (by decide) (by decide) ?_
    exact ⟨_, _, rfl, hI, hF0, (by have hw : σ 86 11 = (σ 86 11) := rfl; omega), (-1), rfl, by omega, (fun j hj => ⟨rfl, rfl⟩)⟩
  · skip
    refine qr_aload_n 9 rfl rfl rfl ?_
    refine qr_iload_n 10 rfl rfl rfl ?_
    refine qr_bipush 12 rfl (by decide) rfl ?_
    refine qr_idiv 13 rfl (by omega) (by omega) rfl ?_
    refine qr_iload_n 14 rfl rfl rfl ?_
    refine qr_bipush 16 rfl (by decide) rfl ?_
    refine qr_irem 17 rfl (by omega) (by omega) rfl ?_
    refine qr_callN 20 rfl rfl rfl (sf_185_86 (d := d + 4) hI (by omega) (by omega)) ?_
    rintro _ _ ⟨rfl, v5, rfl, hv5⟩
    show qr_W (qe L xs vb) (d + 5) qx_e254 _ (20, _, [.int (qz v5)], qw σ α κ ρ, 0, 0)
    refine qr_if_ne 40 23 rfl rfl rfl (by omega) (fun h6 => ?_) (fun h6 => ?_)
    · skip
      refine qr_iconst 41 rfl rfl ?_
      refine qr_retI rfl rfl (by decide) (by decide) ?_
      exact ⟨_, _, rfl, hI, hF0, (by have hw : σ 86 11 = (σ 86 11) := rfl; omega), (-1), rfl, by omega, (fun j hj => ⟨rfl, rfl⟩)⟩
    · skip
      refine qr_iload_n 24 rfl rfl rfl ?_
      refine qr_callN 27 rfl rfl rfl (sf_192 (d := d + 3) hI (by omega)) ?_
      rintro _ _ ⟨rfl, v7, rfl, hv7, hp8⟩
      show qr_W (qe L xs vb) (d + 5) qx_e254 _ (27, _, [.int (qz v7)], qw σ α κ ρ, 0, 0)
      refine qr_if_eq 40 30 rfl rfl rfl (by omega) (fun h9 => ?_) (fun h9 => ?_)
      · skip
        refine qr_iconst 41 rfl rfl ?_
        refine qr_retI rfl rfl (by decide) (by decide) ?_
        exact ⟨_, _, rfl, hI, hF0, (by have hw : σ 86 11 = (σ 86 11) := rfl; omega), (-1), rfl, by omega, (fun j hj => ⟨rfl, rfl⟩)⟩
      · skip
        refine qr_iload_n 31 rfl rfl rfl ?_
        refine qr_i2l 32 rfl (by omega) rfl ?_
        refine qr_lconst 33 rfl rfl ?_
        refine qy_vl 0 rfl ?_
        refine qr_lconst 34 rfl rfl ?_
        refine qy_vl 1 rfl ?_
        refine qr_callN 37 rfl rfl rfl (sf_176 (d := d + 4) hI (by omega) (by omega) (by omega)) ?_
        rintro _ _ ⟨rfl, v10, rfl, hv10, hp11⟩
        show qr_W (qe L xs vb) (d + 5) qx_e254 _ (37, _, [.int (qz v10)], qw σ α κ ρ, 0, 0)
        refine qr_if_ne 42 40 rfl rfl rfl (by omega) (fun h12 => ?_) (fun h12 => ?_)
        · skip
          refine qr_iconst 43 rfl rfl ?_
          refine qr_istore _ 45 rfl (by decide) rfl rfl ?_
          refine qr_iconst 46 rfl rfl ?_
          refine qr_istore _ 48 rfl (by decide) rfl rfl ?_
          have hL354214 : ∀ (n : Nat) (ls : qm_L) (u354202 u354204 : Int) (σ354205 α354206 : Nat → Nat → Int), 32 - u354204 < (n : Int) → qm_get ls 0 = some (.ref 86) → qm_get ls 1 = some (.int (qz x1)) → qm_get ls 2 = some (.int (qz x2)) → qm_get ls 3 = some (.int (qz x3)) → qm_get ls 4 = some (.int (qz u354202)) → qm_get ls 5 = some (.int (qz u354204)) → ((-2147483648) ≤ u354202 ∧ u354202 ≤ 2147483647) → (0 ≤ u354204 ∧ u354204 ≤ 32) → qI σ354205 α354206 κ ρ → qFr [(86, 11), (86, 15), (86, 23)] [94, 95, 96, 119] σ α σ354205 α354206 → σ354205 86 11 = (σ 86 11) → α354206 94 = (α 94) → α354206 95 = (α 95) → qr_W (qe L xs vb) (d + 5) qx_e254 (fun r w' => ∃ σ' α', w' = qw σ' α' κ ρ ∧ qI σ' α' κ ρ ∧ qFr [(86, 11), (86, 15), (86, 23)] [94, 95, 96, 119] σ α σ' α' ∧ σ' 86 11 = σ 86 11 ∧ ∃ v : Int, r = some (.int (qz v)) ∧ ((-2147483648) ≤ v ∧ v ≤ 2147483647) ∧ (∀ j : Nat, (j : Int) < σ 86 11 → α' 94 j = α 94 j ∧ α' 95 j = α 95 j)) (48, ls, [], qw σ354205 α354206 κ ρ, 0, 0) := by
            intro n
            induction n with
            | zero => intro ls u354202 u354204 σ354205 α354206 hm g354197 g354198 g354199 g354200 g354201 g354203 hf354212 hf354213 hI354207 hF354208 hk354209 hk354210 hk354211; exact False.elim (by omega)
            | succ n ih354215 =>
              intro ls u354202 u354204 σ354205 α354206 hm g354197 g354198 g354199 g354200 g354201 g354203 hf354212 hf354213 hI354207 hF354208 hk354209 hk354210 hk354211
              refine qr_iload 50 rfl g354203 rfl ?_
              refine qr_aload_n 51 rfl g354197 rfl ?_
              refine qr_get 54 rfl rfl rfl (by decide) rfl ?_
              have hs354216 : 0 ≤ σ354205 86 6 ∧ σ354205 86 6 ≤ 32 := hI354207.1 86 6
              refine qr_icmp_ge 148 57 rfl rfl rfl (by omega) (by omega) (fun h355627 => ?_) (fun h355627 => ?_)
              · skip
                refine qr_iload_n 149 rfl g354200 rfl ?_
                refine qr_iconst 150 rfl rfl ?_
                refine qr_icmp_ne 156 153 rfl rfl rfl (by omega) (by omega) (fun h355628 => ?_) (fun h355628 => ?_)
                · skip
                  refine qr_aload_n 157 rfl g354197 rfl ?_
                  refine qr_get 160 rfl rfl rfl (by decide) rfl ?_
                  refine qr_aload_n 161 rfl g354197 rfl ?_
                  refine qr_get 164 rfl rfl rfl (by decide) rfl ?_
                  refine qy_v (σ 86 11) ((hk354209).trans rfl) ?_
                  refine qr_iload_n 165 rfl g354198 rfl ?_
                  refine qr_bipush 167 rfl (by decide) rfl ?_
                  refine qr_idiv 168 rfl (by omega) (by omega) rfl ?_
                  refine qr_iastore 169 rfl (by decide) rfl (by omega) (by decide) rfl ?_
                  refine qy_wA (qw_r α354206 94 (qzu (α354206 94) ((σ 86 11) : Int).toNat (x1 / 100))) rfl (fun α355629 e355630 => ?_)
                  have hI355631 : qI σ354205 α355629 κ ρ := by rw [e355630]; exact qI_r94 hI354207 _ (show 0 ≤ (x1 / 100) ∧ (x1 / 100) ≤ 31 by omega) (by omega)
                  have hF355632 : qFr [(86, 11), (86, 15), (86, 23)] [94, 95, 96, 119] σ α σ354205 α355629 := by rw [e355630]; exact qFr_r hF354208 94 _ (by decide)
                  refine qr_aload_n 170 rfl g354197 rfl ?_
                  refine qr_get 173 rfl rfl rfl (by decide) rfl ?_
                  refine qr_aload_n 174 rfl g354197 rfl ?_
                  refine qr_get 177 rfl rfl rfl (by decide) rfl ?_
                  refine qy_v (σ 86 11) ((hk354209).trans rfl) ?_
                  refine qr_iload_n 178 rfl g354198 rfl ?_
                  refine qr_bipush 180 rfl (by decide) rfl ?_
                  refine qr_irem 181 rfl (by omega) (by omega) rfl ?_
                  refine qr_iastore 182 rfl (by decide) rfl (by omega) (by decide) rfl ?_
                  refine qy_wA (qw_r α355629 95 (qzu (α355629 95) ((σ 86 11) : Int).toNat (x1 % 100))) rfl (fun α355633 e355634 => ?_)
                  have hI355635 : qI σ354205 α355633 κ ρ := by rw [e355634]; exact qI_r95 hI355631 _ (show 0 ≤ (x1 % 100) ∧ (x1 % 100) ≤ 31 by omega) (by omega)
                  have hF355636 : qFr [(86, 11), (86, 15), (86, 23)] [94, 95, 96, 119] σ α σ354205 α355633 := by rw [e355634]; exact qFr_r hF355632 95 _ (by decide)
                  refine qr_aload_n 183 rfl g354197 rfl ?_
                  refine qr_dup 184 rfl rfl rfl ?_
                  refine qr_get 187 rfl rfl rfl (by decide) rfl ?_
                  refine qy_v (σ 86 11) ((hk354209).trans rfl) ?_
                  refine qr_iconst 188 rfl rfl ?_
                  refine qr_iadd 189 rfl rfl ?_
                  refine qr_put 192 rfl (by decide) rfl (Nat.le_of_ble_eq_true rfl) (Nat.le_of_ble_eq_true rfl) (Or.inl rfl) (qr_fitI rfl _) rfl ?_
                  refine qy_wS (qw_s σ354205 86 11 ((σ 86 11) + 1)) rfl (fun σ355637 e355638 => ?_)
                  have hF355640 : qFr [(86, 11), (86, 15), (86, 23)] [94, 95, 96, 119] σ α σ355637 α355633 := by rw [e355638]; exact qFr_s hF355636 86 11 _ (by decide)
                  refine qr_aload_n 193 rfl g354197 rfl ?_
                  refine qr_iconst 194 rfl rfl ?_
                  refine qr_put 197 rfl (by decide) rfl (Nat.le_of_ble_eq_true rfl) (Nat.le_of_ble_eq_true rfl) (Or.inl rfl) (qr_fitZ rfl (by omega)) rfl ?_
                  refine qy_wS (qw_s σ355637 86 15 0) rfl (fun σ355641 e355642 => ?_)
                  have hI355643 : qI σ355641 α355633 κ ρ := by rw [e355642, e355638]; exact qI_s1115 hI355635 (by omega) (qE_new hI355635 (p := (x1 / 100)) (q := (x1 % 100)) (k := ((σ 86 11) : Int).toNat) (by have hw : σ354205 86 11 = (σ 86 11) := (hk354209).trans rfl; omega) (by rw [e355634, qw_r_ne (by decide), e355630, qw_r_eq]; unfold qzu; rw [if_pos rfl]) (by rw [e355634, qw_r_eq]; unfold qzu; rw [if_pos rfl]) (by have hw : σ354205 86 6 = (σ354205 86 6) := rfl; omega) (by have hw : σ354205 86 6 = (σ354205 86 6) := rfl; omega))
                  have hF355644 : qFr [(86, 11), (86, 15), (86, 23)] [94, 95, 96, 119] σ α σ355641 α355633 := by rw [e355642]; exact qFr_s hF355640 86 15 _ (by decide)
                  refine qr_iconst 198 rfl rfl ?_
                  refine qr_istore _ 200 rfl (by decide) rfl rfl ?_
                  refine qr_iconst 201 rfl rfl ?_
                  refine qr_istore _ 203 rfl (by decide) rfl rfl ?_
                  have hL386041 : ∀ (n : Nat) (ls : qm_L) (u386028 u386030 : Int) (σ386031 α386032 : Nat → Nat → Int), 32 - u386030 < (n : Int) → qm_get ls 0 = some (.ref 86) → qm_get ls 2 = some (.int (qz x2)) → qm_get ls 5 = some (.int (qz u386028)) → qm_get ls 6 = some (.int (qz u386030)) → ((-2147483648) ≤ u386028 ∧ u386028 ≤ 2147483647) → (0 ≤ u386030 ∧ u386030 ≤ 32) → qI σ386031 α386032 κ ρ → qFr [(86, 11), (86, 15), (86, 23)] [94, 95, 96, 119] σ α σ386031 α386032 → σ386031 86 6 = (σ354205 86 6) → σ386031 86 11 = ((σ 86 11) + 1) → α386032 94 = (qzu (α 94) ((σ 86 11) : Int).toNat (x1 / 100)) → α386032 95 = (qzu (α 95) ((σ 86 11) : Int).toNat (x1 % 100)) → qr_W (qe L xs vb) (d + 5) qx_e254 (fun r w' => ∃ σ' α', w' = qw σ' α' κ ρ ∧ qI σ' α' κ ρ ∧ qFr [(86, 11), (86, 15), (86, 23)] [94, 95, 96, 119] σ α σ' α' ∧ σ' 86 11 = σ 86 11 ∧ ∃ v : Int, r = some (.int (qz v)) ∧ ((-2147483648) ≤ v ∧ v ≤ 2147483647) ∧ (∀ j : Nat, (j : Int) < σ 86 11 → α' 94 j = α 94 j ∧ α' 95 j = α 95 j)) (203, ls, [], qw σ386031 α386032 κ ρ, 0, 0) := by
                    intro n
                    induction n with
                    | zero => intro ls u386028 u386030 σ386031 α386032 hm g386025 g386026 g386027 g386029 hf386039 hf386040 hI386033 hF386034 hk386035 hk386036 hk386037 hk386038; exact False.elim (by omega)
                    | succ n ih386042 =>
                      intro ls u386028 u386030 σ386031 α386032 hm g386025 g386026 g386027 g386029 hf386039 hf386040 hI386033 hF386034 hk386035 hk386036 hk386037 hk386038
                      refine qr_iload 205 rfl g386029 rfl ?_
                      refine qr_aload_n 206 rfl g386025 rfl ?_
                      refine qr_get 209 rfl rfl rfl (by decide) rfl ?_
                      refine qy_v (σ354205 86 6) ((hk386035).trans rfl) ?_
                      refine qr_icmp_ge 292 212 rfl rfl rfl (by omega) (by omega) (fun h387123 => ?_) (fun h387123 => ?_)
                      · skip
                        refine qr_aload_n 293 rfl g386025 rfl ?_
                        refine qr_dup 294 rfl rfl rfl ?_
                        refine qr_get 297 rfl rfl rfl (by decide) rfl ?_
                        refine qy_v ((σ 86 11) + 1) ((hk386036).trans rfl) ?_
                        refine qr_iconst 298 rfl rfl ?_
                        refine qr_isub 299 rfl rfl ?_
                        refine qr_put 302 rfl (by decide) rfl (Nat.le_of_ble_eq_true rfl) (Nat.le_of_ble_eq_true rfl) (Or.inl rfl) (qr_fitI rfl _) rfl ?_
                        refine qy_wS (qw_s σ386031 86 11 (((σ 86 11) + 1) - 1)) rfl (fun σ387124 e387125 => ?_)
                        have hF387127 : qFr [(86, 11), (86, 15), (86, 23)] [94, 95, 96, 119] σ α σ387124 α386032 := by rw [e387125]; exact qFr_s hF386034 86 11 _ (by decide)
                        refine qr_aload_n 303 rfl g386025 rfl ?_
                        refine qr_iconst 304 rfl rfl ?_
                        refine qr_put 307 rfl (by decide) rfl (Nat.le_of_ble_eq_true rfl) (Nat.le_of_ble_eq_true rfl) (Or.inl rfl) (qr_fitZ rfl (by omega)) rfl ?_
                        refine qy_wS (qw_s σ387124 86 15 0) rfl (fun σ387128 e387129 => ?_)
                        have hI387130 : qI σ387128 α386032 κ ρ := by rw [e387129, e387125]; exact qI_s1115 hI386033 (by omega) (qE_less hI386033 (by have hw : σ386031 86 11 = ((σ 86 11) + 1) := (hk386036).trans rfl; omega))
                        have hF387131 : qFr [(86, 11), (86, 15), (86, 23)] [94, 95, 96, 119] σ α σ387128 α386032 := by rw [e387129]; exact qFr_s hF387127 86 15 _ (by decide)
                        refine qr_iload 309 rfl g386027 rfl ?_
                        refine qr_retI rfl rfl (by decide) (by decide) ?_
                        exact ⟨_, _, rfl, hI387130, hF387131, (by have hw : σ387128 86 11 = (((σ 86 11) + 1) - 1) := (congrFun (congrFun e387129 86) 11).trans ((congrFun (congrFun e387125 86) 11).trans rfl); omega), u386028, rfl, by omega, (fun j hj => by rw [hk386037, hk386038]; unfold qzu; rw [if_neg (by omega), if_neg (by omega)]; exact ⟨rfl, rfl⟩)⟩
                      · skip
                        refine qr_iconst 213 rfl rfl ?_
                        refine qr_istore _ 215 rfl (by decide) rfl rfl ?_
                        have hL388157 : ∀ (n : Nat) (ls : qm_L) (u388143 u388146 : Int) (σ388147 α388148 : Nat → Nat → Int), 31 - u388146 < (n : Int) → qm_get ls 0 = some (.ref 86) → qm_get ls 2 = some (.int (qz x2)) → qm_get ls 5 = some (.int (qz u388143)) → qm_get ls 6 = some (.int (qz u386030)) → qm_get ls 7 = some (.int (qz u388146)) → ((-2147483648) ≤ u388143 ∧ u388143 ≤ 2147483647) → (0 ≤ u388146 ∧ u388146 ≤ 31) → qI σ388147 α388148 κ ρ → qFr [(86, 11), (86, 15), (86, 23)] [94, 95, 96, 119] σ α σ388147 α388148 → σ388147 86 6 = (σ354205 86 6) → σ388147 86 11 = ((σ 86 11) + 1) → α388148 94 = (qzu (α 94) ((σ 86 11) : Int).toNat (x1 / 100)) → α388148 95 = (qzu (α 95) ((σ 86 11) : Int).toNat (x1 % 100)) → qr_W (qe L xs vb) (d + 5) qx_e254 (fun r w' => ∃ σ' α', w' = qw σ' α' κ ρ ∧ qI σ' α' κ ρ ∧ qFr [(86, 11), (86, 15), (86, 23)] [94, 95, 96, 119] σ α σ' α' ∧ σ' 86 11 = σ 86 11 ∧ ∃ v : Int, r = some (.int (qz v)) ∧ ((-2147483648) ≤ v ∧ v ≤ 2147483647) ∧ (∀ j : Nat, (j : Int) < σ 86 11 → α' 94 j = α 94 j ∧ α' 95 j = α 95 j)) (215, ls, [], qw σ388147 α388148 κ ρ, 0, 0) := by
                          intro n
                          induction n with
                          | zero => intro ls u388143 u388146 σ388147 α388148 hm g388140 g388141 g388142 g388144 g388145 hf388155 hf388156 hI388149 hF388150 hk388151 hk388152 hk388153 hk388154; exact False.elim (by omega)
                          | succ n ih388158 =>
                            intro ls u388143 u388146 σ388147 α388148 hm g388140 g388141 g388142 g388144 g388145 hf388155 hf388156 hI388149 hF388150 hk388151 hk388152 hk388153 hk388154
                            refine qr_iload 217 rfl g388145 rfl ?_
                            refine qr_iload 219 rfl g388144 rfl ?_
                            refine qr_icmp_ge 286 222 rfl rfl rfl (by omega) (by omega) (fun h388191 => ?_) (fun h388191 => ?_)
                            · skip
                              refine qr_iinc _ 289 rfl g388144 (by decide) rfl rfl ?_
                              refine qr_goto 203 rfl rfl ?_
                              exact ih386042 _ u388143 (u386030 + 1) σ388147 α388148 (by omega) (qm_gk g388140 (by decide) (Or.inl (by decide))) (qm_gk g388141 (by decide) (Or.inl (by decide))) (qm_gk g388142 (by decide) (Or.inr rfl)) (qm_ge _ _ _) (by omega) (by omega) hI388149 hF388150 ((hk388151).trans rfl) ((hk388152).trans rfl) hk388153 hk388154
                            · skip
                              refine qr_iload 224 rfl g388142 rfl ?_
                              refine qr_aload_n 225 rfl g388140 rfl ?_
                              refine qr_get 228 rfl rfl rfl (by decide) rfl ?_
                              refine qr_bipush 230 rfl (by decide) rfl ?_
                              refine qr_iload 232 rfl g388144 rfl ?_
                              refine qr_imul 233 rfl rfl ?_
                              refine qr_iload 235 rfl g388145 rfl ?_
                              refine qr_iadd 236 rfl rfl ?_
                              refine qr_baload 237 rfl (by decide) rfl (by omega) (by decide) rfl ?_
                              refine qr_topI (fun v388192 hv388192 => ?_)
                              have hs388193 : 0 ≤ v388192 ∧ v388192 ≤ 1 := by rw [hv388192]; exact hI388149.2.1 119 _ (show _ < 1024 by omega)
                              have hJ388216 : ∀ (ls : qm_L) (u388206 : Int) (σ388207 α388208 : Nat → Nat → Int), qm_get ls 0 = some (.ref 86) → qm_get ls 2 = some (.int (qz x2)) → qm_get ls 6 = some (.int (qz u386030)) → qm_get ls 7 = some (.int (qz u388146)) → (0 ≤ u388206 ∧ u388206 ≤ 1) → qI σ388207 α388208 κ ρ → qFr [(86, 11), (86, 15), (86, 23)] [94, 95, 96, 119] σ α σ388207 α388208 → σ388207 86 6 = (σ354205 86 6) → σ388207 86 11 = ((σ 86 11) + 1) → α388208 94 = (qzu (α 94) ((σ 86 11) : Int).toNat (x1 / 100)) → α388208 95 = (qzu (α 95) ((σ 86 11) : Int).toNat (x1 % 100)) → qr_W (qe L xs vb) (d + 5) qx_e254 (fun r w' => ∃ σ' α', w' = qw σ' α' κ ρ ∧ qI σ' α' κ ρ ∧ qFr [(86, 11), (86, 15), (86, 23)] [94, 95, 96, 119] σ α σ' α' ∧ σ' 86 11 = σ 86 11 ∧ ∃ v : Int, r = some (.int (qz v)) ∧ ((-2147483648) ≤ v ∧ v ≤ 2147483647) ∧ (∀ j : Nat, (j : Int) < σ 86 11 → α' 94 j = α 94 j ∧ α' 95 j = α 95 j)) (277, ls, [.int (qz u388206), .int (qz u388143)], qw σ388207 α388208 κ ρ, 0, 0) := by
                                intro ls u388206 σ388207 α388208 g388202 g388203 g388204 g388205 hf388215 hI388209 hF388210 hk388211 hk388212 hk388213 hk388214
                                refine qr_iadd 278 rfl rfl ?_
                                refine qy_can (fun v388217 hv388217 => ?_)
                                refine qr_istore _ 280 rfl (by decide) rfl rfl ?_
                                refine qr_iinc _ 283 rfl (qm_gk g388205 (by decide) (Or.inl (by decide))) (by decide) rfl rfl ?_
                                refine qr_goto 215 rfl rfl ?_
                                exact ih388158 _ v388217 (u388146 + 1) σ388207 α388208 (by omega) (qm_gk (qm_gk g388202 (by decide) (Or.inl (by decide))) (by decide) (Or.inl (by decide))) (qm_gk (qm_gk g388203 (by decide) (Or.inl (by decide))) (by decide) (Or.inl (by decide))) (qm_gk (qm_ge _ _ _) (by decide) (Or.inl (by decide))) (qm_gk (qm_gk g388204 (by decide) (Or.inl (by decide))) (by decide) (Or.inr rfl)) (qm_ge _ _ _) (by omega) (by omega) hI388209 hF388210 ((hk388211).trans rfl) ((hk388212).trans rfl) hk388213 hk388214
                              refine qr_if_ne 276 240 rfl rfl rfl (by omega) (fun h388218 => ?_) (fun h388218 => ?_)
                              · skip
                                refine qr_iconst 277 rfl rfl ?_
                                exact hJ388216 _ 0 σ388147 α388148 g388140 g388141 g388144 g388145 (by omega) hI388149 hF388150 ((hk388151).trans rfl) ((hk388152).trans rfl) hk388153 hk388154
                              · skip
                                refine qr_aload_n 241 rfl g388140 rfl ?_
                                refine qr_iload 243 rfl g388144 rfl ?_
                                refine qr_callN 246 rfl rfl rfl (sf_181_86 (d := d + 4) hI388149 (by omega)) ?_
                                rintro _ _ ⟨rfl, v388219, rfl, hv388219⟩
                                show qr_W (qe L xs vb) (d + 5) qx_e254 _ (246, _, [.int (qz v388219), .int (qz u388143)], qw σ388147 α388148 κ ρ, 0, 0)
                                refine qr_if_ne 276 249 rfl rfl rfl (by omega) (fun h388220 => ?_) (fun h388220 => ?_)
                                · skip
                                  refine qr_iconst 277 rfl rfl ?_
                                  exact hJ388216 _ 0 σ388147 α388148 g388140 g388141 g388144 g388145 (by omega) hI388149 hF388150 ((hk388151).trans rfl) ((hk388152).trans rfl) hk388153 hk388154
                                · skip
                                  refine qr_aload_n 250 rfl g388140 rfl ?_
                                  refine qr_iload 252 rfl g388145 rfl ?_
                                  refine qr_callN 255 rfl rfl rfl (sf_181_86 (d := d + 4) hI388149 (by omega)) ?_
                                  rintro _ _ ⟨rfl, v388221, rfl, hv388221⟩
                                  show qr_W (qe L xs vb) (d + 5) qx_e254 _ (255, _, [.int (qz v388221), .int (qz u388143)], qw σ388147 α388148 κ ρ, 0, 0)
                                  refine qr_if_ne 276 258 rfl rfl rfl (by omega) (fun h388222 => ?_) (fun h388222 => ?_)
                                  · skip
                                    refine qr_iconst 277 rfl rfl ?_
                                    exact hJ388216 _ 0 σ388147 α388148 g388140 g388141 g388144 g388145 (by omega) hI388149 hF388150 ((hk388151).trans rfl) ((hk388152).trans rfl) hk388153 hk388154
                                  · skip
                                    refine qr_aload_n 259 rfl g388140 rfl ?_
                                    refine qr_iload 261 rfl g388144 rfl ?_
                                    refine qr_iload 263 rfl g388145 rfl ?_
                                    refine qr_iload_n 264 rfl g388141 rfl ?_
                                    refine qr_callN 267 rfl rfl rfl (sf_195_86 (d := d + 0) hI388149 (by omega) (by omega) (by omega)) ?_
                                    rintro _ _ ⟨σ388224, α388225, rfl, hI388226, hG388227, v388223, rfl, hv388223⟩
                                    have hF388228 : qFr [(86, 11), (86, 15), (86, 23)] [94, 95, 96, 119] σ α σ388224 α388225 := qFr_t hF388150 hG388227 (by decide) (by decide)
                                    show qr_W (qe L xs vb) (d + 5) qx_e254 _ (267, _, [.int (qz v388223), .int (qz u388143)], qw σ388224 α388225 κ ρ, 0, 0)
                                    refine qr_bipush 269 rfl (by decide) rfl ?_
                                    refine qr_icmp_eq 276 272 rfl rfl rfl (by omega) (by omega) (fun h388229 => ?_) (fun h388229 => ?_)
                                    · skip
                                      refine qr_iconst 277 rfl rfl ?_
                                      exact hJ388216 _ 0 σ388224 α388225 g388140 g388141 g388144 g388145 (by omega) hI388226 hF388228 ((hG388227.1 86 6 (by decide)).trans ((hk388151).trans rfl)) ((hG388227.1 86 11 (by decide)).trans ((hk388152).trans rfl)) ((hG388227.2 94 (by decide)).trans hk388153) ((hG388227.2 95 (by decide)).trans hk388154)
                                    · skip
                                      refine qr_iconst 273 rfl rfl ?_
                                      refine qr_goto 277 rfl rfl ?_
                                      exact hJ388216 _ 1 σ388224 α388225 g388140 g388141 g388144 g388145 (by omega) hI388226 hF388228 ((hG388227.1 86 6 (by decide)).trans ((hk388151).trans rfl)) ((hG388227.1 86 11 (by decide)).trans ((hk388152).trans rfl)) ((hG388227.2 94 (by decide)).trans hk388153) ((hG388227.2 95 (by decide)).trans hk388154)
                        exact hL388157 ((31 - 0 + 1 : Int)).toNat _ u386028 0 σ386031 α386032 (by omega) (qm_gk g386025 (by decide) (Or.inl (by decide))) (qm_gk g386026 (by decide) (Or.inl (by decide))) (qm_gk g386027 (by decide) (Or.inl (by decide))) (qm_gk g386029 (by decide) (Or.inr rfl)) (qm_ge _ _ _) (by omega) (by omega) hI386033 hF386034 ((hk386035).trans rfl) ((hk386036).trans rfl) hk386037 hk386038
                  exact hL386041 ((32 - 0 + 1 : Int)).toNat _ 0 0 σ355641 α355633 (by omega) (qm_gk (qm_gk g354197 (by decide) (Or.inl (by decide))) (by decide) (Or.inl (by decide))) (qm_gk (qm_gk g354199 (by decide) (Or.inl (by decide))) (by decide) (Or.inl (by decide))) (qm_gk (qm_ge _ _ _) (by decide) (Or.inr rfl)) (qm_ge _ _ _) (by omega) (by omega) hI355643 hF355644 ((congrFun (congrFun e355642 86) 6).trans ((congrFun (congrFun e355638 86) 6).trans rfl)) ((congrFun (congrFun e355642 86) 11).trans ((congrFun (congrFun e355638 86) 11).trans rfl)) ((congrFun e355634 94).trans ((qw_r_ne (by decide)).trans ((congrFun e355630 94).trans (qw_r_eq.trans (congrArg (fun f => qzu f ((σ 86 11) : Int).toNat (x1 / 100)) hk354210))))) ((congrFun e355634 95).trans (qw_r_eq.trans (congrArg (fun f => qzu f ((σ 86 11) : Int).toNat (x1 % 100)) ((congrFun e355630 95).trans ((qw_r_ne (by decide)).trans hk354211)))))
                · skip
                  refine qr_iload 155 rfl g354201 rfl ?_
                  refine qr_retI rfl rfl (by decide) (by decide) ?_
                  exact ⟨_, _, rfl, hI354207, hF354208, (by have hw : σ354205 86 11 = (σ 86 11) := (hk354209).trans rfl; omega), u354202, rfl, by omega, (fun j hj => ⟨congrFun hk354210 j, congrFun hk354211 j⟩)⟩
              · skip
                refine qr_iconst 58 rfl rfl ?_
                refine qr_istore _ 60 rfl (by decide) rfl rfl ?_
                have hL389565 : ∀ (n : Nat) (ls : qm_L) (u389551 u389554 : Int) (σ389555 α389556 : Nat → Nat → Int), 31 - u389554 < (n : Int) → qm_get ls 0 = some (.ref 86) → qm_get ls 1 = some (.int (qz x1)) → qm_get ls 2 = some (.int (qz x2)) → qm_get ls 3 = some (.int (qz x3)) → qm_get ls 4 = some (.int (qz u389551)) → qm_get ls 5 = some (.int (qz u354204)) → qm_get ls 6 = some (.int (qz u389554)) → ((-2147483648) ≤ u389551 ∧ u389551 ≤ 2147483647) → (0 ≤ u389554 ∧ u389554 ≤ 31) → qI σ389555 α389556 κ ρ → qFr [(86, 11), (86, 15), (86, 23)] [94, 95, 96, 119] σ α σ389555 α389556 → σ389555 86 6 = (σ354205 86 6) → σ389555 86 11 = (σ 86 11) → α389556 94 = (α 94) → α389556 95 = (α 95) → qr_W (qe L xs vb) (d + 5) qx_e254 (fun r w' => ∃ σ' α', w' = qw σ' α' κ ρ ∧ qI σ' α' κ ρ ∧ qFr [(86, 11), (86, 15), (86, 23)] [94, 95, 96, 119] σ α σ' α' ∧ σ' 86 11 = σ 86 11 ∧ ∃ v : Int, r = some (.int (qz v)) ∧ ((-2147483648) ≤ v ∧ v ≤ 2147483647) ∧ (∀ j : Nat, (j : Int) < σ 86 11 → α' 94 j = α 94 j ∧ α' 95 j = α 95 j)) (60, ls, [], qw σ389555 α389556 κ ρ, 0, 0) := by
                  intro n
                  induction n with
                  | zero => intro ls u389551 u389554 σ389555 α389556 hm g389546 g389547 g389548 g389549 g389550 g389552 g389553 hf389563 hf389564 hI389557 hF389558 hk389559 hk389560 hk389561 hk389562; exact False.elim (by omega)
                  | succ n ih389566 =>
                    intro ls u389551 u389554 σ389555 α389556 hm g389546 g389547 g389548 g389549 g389550 g389552 g389553 hf389563 hf389564 hI389557 hF389558 hk389559 hk389560 hk389561 hk389562
                    refine qr_iload 62 rfl g389553 rfl ?_
                    refine qr_iload 64 rfl g389552 rfl ?_
                    refine qr_icmp_ge 142 67 rfl rfl rfl (by omega) (by omega) (fun h389610 => ?_) (fun h389610 => ?_)
                    · skip
                      refine qr_iinc _ 145 rfl g389552 (by decide) rfl rfl ?_
                      refine qr_goto 48 rfl rfl ?_
                      exact ih354215 _ u389551 (u354204 + 1) σ389555 α389556 (by omega) (qm_gk g389546 (by decide) (Or.inl (by decide))) (qm_gk g389547 (by decide) (Or.inl (by decide))) (qm_gk g389548 (by decide) (Or.inl (by decide))) (qm_gk g389549 (by decide) (Or.inl (by decide))) (qm_gk g389550 (by decide) (Or.inr rfl)) (qm_ge _ _ _) (by omega) (by omega) hI389557 hF389558 ((hk389560).trans rfl) hk389561 hk389562
                    · skip
                      refine qr_aload_n 68 rfl g389546 rfl ?_
                      refine qr_iload 70 rfl g389552 rfl ?_
                      refine qr_callN 73 rfl rfl rfl (sf_181_86 (d := d + 4) hI389557 (by omega)) ?_
                      rintro _ _ ⟨rfl, v389611, rfl, hv389611⟩
                      show qr_W (qe L xs vb) (d + 5) qx_e254 _ (73, _, [.int (qz v389611)], qw σ389555 α389556 κ ρ, 0, 0)
                      have hJ389636 : ∀ (ls : qm_L) (u389626 : Int) (σ389627 α389628 : Nat → Nat → Int), qm_get ls 0 = some (.ref 86) → qm_get ls 1 = some (.int (qz x1)) → qm_get ls 2 = some (.int (qz x2)) → qm_get ls 3 = some (.int (qz x3)) → qm_get ls 4 = some (.int (qz u389551)) → qm_get ls 5 = some (.int (qz u354204)) → qm_get ls 6 = some (.int (qz u389554)) → (0 ≤ u389626 ∧ u389626 ≤ 1) → qI σ389627 α389628 κ ρ → qFr [(86, 11), (86, 15), (86, 23)] [94, 95, 96, 119] σ α σ389627 α389628 → σ389627 86 6 = (σ354205 86 6) → σ389627 86 11 = (σ 86 11) → α389628 94 = (α 94) → α389628 95 = (α 95) → qr_W (qe L xs vb) (d + 5) qx_e254 (fun r w' => ∃ σ' α', w' = qw σ' α' κ ρ ∧ qI σ' α' κ ρ ∧ qFr [(86, 11), (86, 15), (86, 23)] [94, 95, 96, 119] σ α σ' α' ∧ σ' 86 11 = σ 86 11 ∧ ∃ v : Int, r = some (.int (qz v)) ∧ ((-2147483648) ≤ v ∧ v ≤ 2147483647) ∧ (∀ j : Nat, (j : Int) < σ 86 11 → α' 94 j = α 94 j ∧ α' 95 j = α 95 j)) (104, ls, [.int (qz u389626)], qw σ389627 α389628 κ ρ, 0, 0) := by
                        intro ls u389626 σ389627 α389628 g389619 g389620 g389621 g389622 g389623 g389624 g389625 hf389635 hI389629 hF389630 hk389631 hk389632 hk389633 hk389634
                        refine qr_istore _ 106 rfl (by decide) rfl rfl ?_
                        refine qr_aload_n 107 rfl (qm_gk g389619 (by decide) (Or.inl (by decide))) rfl ?_
                        refine qr_get 110 rfl rfl rfl (by decide) rfl ?_
                        refine qr_bipush 112 rfl (by decide) rfl ?_
                        refine qr_iload 114 rfl (qm_gk g389624 (by decide) (Or.inl (by decide))) rfl ?_
                        refine qr_imul 115 rfl rfl ?_
                        refine qr_iload 117 rfl (qm_gk g389625 (by decide) (Or.inr rfl)) rfl ?_
                        refine qr_iadd 118 rfl rfl ?_
                        refine qr_iload 120 rfl (qm_ge _ _ _) rfl ?_
                        refine qr_bastore 121 rfl (by decide) rfl (by omega) (by decide) (by omega) rfl ?_
                        refine qy_wA (qw_r α389628 119 (qzu (α389628 119) (((32 * u354204) + u389554) : Int).toNat u389626)) rfl (fun α389637 e389638 => ?_)
                        have hI389639 : qI σ389627 α389637 κ ρ := by rw [e389638]; exact qI_r hI389629 119 _ rfl (show 0 ≤ u389626 ∧ u389626 ≤ 1 by omega)
                        have hF389640 : qFr [(86, 11), (86, 15), (86, 23)] [94, 95, 96, 119] σ α σ389627 α389637 := by rw [e389638]; exact qFr_r hF389630 119 _ (by decide)
                        refine qr_iload 123 rfl (qm_gk g389623 (by decide) (Or.inl (by decide))) rfl ?_
                        refine qr_iload 125 rfl (qm_ge _ _ _) rfl ?_
                        have hJ389649 : ∀ (ls : qm_L) (u389647 : Int), qm_get ls 0 = some (.ref 86) → qm_get ls 1 = some (.int (qz x1)) → qm_get ls 2 = some (.int (qz x2)) → qm_get ls 3 = some (.int (qz x3)) → qm_get ls 5 = some (.int (qz u354204)) → qm_get ls 6 = some (.int (qz u389554)) → (0 ≤ u389647 ∧ u389647 ≤ 1) → qr_W (qe L xs vb) (d + 5) qx_e254 (fun r w' => ∃ σ' α', w' = qw σ' α' κ ρ ∧ qI σ' α' κ ρ ∧ qFr [(86, 11), (86, 15), (86, 23)] [94, 95, 96, 119] σ α σ' α' ∧ σ' 86 11 = σ 86 11 ∧ ∃ v : Int, r = some (.int (qz v)) ∧ ((-2147483648) ≤ v ∧ v ≤ 2147483647) ∧ (∀ j : Nat, (j : Int) < σ 86 11 → α' 94 j = α 94 j ∧ α' 95 j = α 95 j)) (133, ls, [.int (qz u389647), .int (qz u389551)], qw σ389627 α389637 κ ρ, 0, 0) := by
                          intro ls u389647 g389641 g389642 g389643 g389644 g389645 g389646 hf389648
                          refine qr_iadd 134 rfl rfl ?_
                          refine qy_can (fun v389650 hv389650 => ?_)
                          refine qr_istore _ 136 rfl (by decide) rfl rfl ?_
                          refine qr_iinc _ 139 rfl (qm_gk g389646 (by decide) (Or.inl (by decide))) (by decide) rfl rfl ?_
                          refine qr_goto 60 rfl rfl ?_
                          exact ih389566 _ v389650 (u389554 + 1) σ389627 α389637 (by omega) (qm_gk (qm_gk g389641 (by decide) (Or.inl (by decide))) (by decide) (Or.inl (by decide))) (qm_gk (qm_gk g389642 (by decide) (Or.inl (by decide))) (by decide) (Or.inl (by decide))) (qm_gk (qm_gk g389643 (by decide) (Or.inl (by decide))) (by decide) (Or.inl (by decide))) (qm_gk (qm_gk g389644 (by decide) (Or.inr rfl)) (by decide) (Or.inl (by decide))) (qm_gk (qm_ge _ _ _) (by decide) (Or.inl (by decide))) (qm_gk (qm_gk g389645 (by decide) (Or.inl (by decide))) (by decide) (Or.inr rfl)) (qm_ge _ _ _) (by omega) (by omega) hI389639 hF389640 ((hk389631).trans rfl) ((hk389632).trans rfl) ((congrFun e389638 94).trans ((qw_r_ne (by decide)).trans hk389633)) ((congrFun e389638 95).trans ((qw_r_ne (by decide)).trans hk389634))
                        refine qr_if_eq 132 128 rfl rfl rfl (by omega) (fun h389651 => ?_) (fun h389651 => ?_)
                        · skip
                          refine qr_iconst 133 rfl rfl ?_
                          exact hJ389649 _ 0 (qm_gk g389619 (by decide) (Or.inl (by decide))) (qm_gk g389620 (by decide) (Or.inl (by decide))) (qm_gk g389621 (by decide) (Or.inl (by decide))) (qm_gk g389622 (by decide) (Or.inl (by decide))) (qm_gk g389624 (by decide) (Or.inl (by decide))) (qm_gk g389625 (by decide) (Or.inr rfl)) (by omega)
                        · skip
                          refine qr_iconst 129 rfl rfl ?_
                          refine qr_goto 133 rfl rfl ?_
                          exact hJ389649 _ 1 (qm_gk g389619 (by decide) (Or.inl (by decide))) (qm_gk g389620 (by decide) (Or.inl (by decide))) (qm_gk g389621 (by decide) (Or.inl (by decide))) (qm_gk g389622 (by decide) (Or.inl (by decide))) (qm_gk g389624 (by decide) (Or.inl (by decide))) (qm_gk g389625 (by decide) (Or.inr rfl)) (by omega)
                      refine qr_if_ne 103 76 rfl rfl rfl (by omega) (fun h389652 => ?_) (fun h389652 => ?_)
                      · skip
                        refine qr_iconst 104 rfl rfl ?_
                        exact hJ389636 _ 0 σ389555 α389556 g389546 g389547 g389548 g389549 g389550 g389552 g389553 (by omega) hI389557 hF389558 ((hk389559).trans rfl) ((hk389560).trans rfl) hk389561 hk389562
                      · skip
                        refine qr_aload_n 77 rfl g389546 rfl ?_
                        refine qr_iload 79 rfl g389553 rfl ?_
                        refine qr_callN 82 rfl rfl rfl (sf_181_86 (d := d + 4) hI389557 (by omega)) ?_
                        rintro _ _ ⟨rfl, v389653, rfl, hv389653⟩
                        show qr_W (qe L xs vb) (d + 5) qx_e254 _ (82, _, [.int (qz v389653)], qw σ389555 α389556 κ ρ, 0, 0)
                        refine qr_if_ne 103 85 rfl rfl rfl (by omega) (fun h389654 => ?_) (fun h389654 => ?_)
                        · skip
                          refine qr_iconst 104 rfl rfl ?_
                          exact hJ389636 _ 0 σ389555 α389556 g389546 g389547 g389548 g389549 g389550 g389552 g389553 (by omega) hI389557 hF389558 ((hk389559).trans rfl) ((hk389560).trans rfl) hk389561 hk389562
                        · skip
                          refine qr_aload_n 86 rfl g389546 rfl ?_
                          refine qr_iload 88 rfl g389552 rfl ?_
                          refine qr_iload 90 rfl g389553 rfl ?_
                          refine qr_iload_n 91 rfl g389548 rfl ?_
                          refine qr_callN 94 rfl rfl rfl (sf_195_86 (d := d + 0) hI389557 (by omega) (by omega) (by omega)) ?_
                          rintro _ _ ⟨σ389656, α389657, rfl, hI389658, hG389659, v389655, rfl, hv389655⟩
                          have hF389660 : qFr [(86, 11), (86, 15), (86, 23)] [94, 95, 96, 119] σ α σ389656 α389657 := qFr_t hF389558 hG389659 (by decide) (by decide)
                          show qr_W (qe L xs vb) (d + 5) qx_e254 _ (94, _, [.int (qz v389655)], qw σ389656 α389657 κ ρ, 0, 0)
                          refine qr_bipush 96 rfl (by decide) rfl ?_
                          refine qr_icmp_eq 103 99 rfl rfl rfl (by omega) (by omega) (fun h389661 => ?_) (fun h389661 => ?_)
                          · skip
                            refine qr_iconst 104 rfl rfl ?_
                            exact hJ389636 _ 0 σ389656 α389657 g389546 g389547 g389548 g389549 g389550 g389552 g389553 (by omega) hI389658 hF389660 ((hG389659.1 86 6 (by decide)).trans ((hk389559).trans rfl)) ((hG389659.1 86 11 (by decide)).trans ((hk389560).trans rfl)) ((hG389659.2 94 (by decide)).trans hk389561) ((hG389659.2 95 (by decide)).trans hk389562)
                          · skip
                            refine qr_iconst 100 rfl rfl ?_
                            refine qr_goto 104 rfl rfl ?_
                            exact hJ389636 _ 1 σ389656 α389657 g389546 g389547 g389548 g389549 g389550 g389552 g389553 (by omega) hI389658 hF389660 ((hG389659.1 86 6 (by decide)).trans ((hk389559).trans rfl)) ((hG389659.1 86 11 (by decide)).trans ((hk389560).trans rfl)) ((hG389659.2 94 (by decide)).trans hk389561) ((hG389659.2 95 (by decide)).trans hk389562)
                exact hL389565 ((31 - 0 + 1 : Int)).toNat _ u354202 0 σ354205 α354206 (by omega) (qm_gk g354197 (by decide) (Or.inl (by decide))) (qm_gk g354198 (by decide) (Or.inl (by decide))) (qm_gk g354199 (by decide) (Or.inl (by decide))) (qm_gk g354200 (by decide) (Or.inl (by decide))) (qm_gk g354201 (by decide) (Or.inl (by decide))) (qm_gk g354203 (by decide) (Or.inr rfl)) (qm_ge _ _ _) (by omega) (by omega) hI354207 hF354208 (rfl) ((hk354209).trans rfl) hk354210 hk354211
          exact hL354214 ((32 - 0 + 1 : Int)).toNat _ 0 0 σ α (by omega) rfl rfl rfl rfl rfl rfl (by omega) (by omega) hI hF0 (rfl) rfl rfl
        · skip
          refine qr_iconst 41 rfl rfl ?_
          refine qr_retI rfl rfl (by decide) (by decide) ?_
          exact ⟨_, _, rfl, hI, hF0, (by have hw : σ 86 11 = (σ 86 11) := rfl; omega), (-1), rfl, by omega, (fun j hj => ⟨rfl, rfl⟩)⟩
set_option maxHeartbeats 4000000 in
theorem rl6_person {σ α σ' α' : Nat → Nat → Int} {x1 x2 x3 v : Int} (h : ((v = -1 ∧ ¬ ((x1 = -1 ∨ (0 ≤ x1 ∧ x1 < σ 86 6)) ∧ 1 ≤ x2 ∧ x2 ≤ 99 ∧ (x3 = 0 ∨ x3 = 1)) ∧ σ' 86 6 = σ 86 6) ∧ α' 91 = α 91 ∧ α' 92 = α 92) ∨ ((v = -3 ∧ ((x1 = -1 ∨ (0 ≤ x1 ∧ x1 < σ 86 6)) ∧ 1 ≤ x2 ∧ x2 ≤ 99 ∧ (x3 = 0 ∨ x3 = 1)) ∧ 32 ≤ σ 86 6 ∧ σ' 86 6 = σ 86 6) ∧ α' 91 = α 91 ∧ α' 92 = α 92) ∨ ((v = σ 86 6 ∧ ((x1 = -1 ∨ (0 ≤ x1 ∧ x1 < σ 86 6)) ∧ 1 ≤ x2 ∧ x2 ≤ 99 ∧ (x3 = 0 ∨ x3 = 1)) ∧ σ 86 6 < 32 ∧ σ' 86 6 = σ 86 6 + 1) ∧ α' 91 = qzu (α 91) (v : Int).toNat (x1) ∧ α' 92 = qzu (α 92) (v : Int).toNat (x2))) : σ 86 6 ≤ σ' 86 6 := by
  rcases h with ⟨h, _, _⟩ | ⟨h, _, _⟩ | ⟨h, _, _⟩ <;> omega
set_option maxHeartbeats 4000000 in
theorem rl6_people {σ α σ' α' : Nat → Nat → Int} {x1 x2 x3 v : Int} (h : ((v = -1 ∧ ¬ (0 ≤ x1 ∧ x1 ≤ 5 ∧ 1 ≤ x3 ∧ x3 ≤ 20) ∧ σ' 86 6 = σ 86 6) ∧ α' 91 = α 91 ∧ α' 92 = α 92) ∨ ((v = 0 ∧ (0 ≤ x1 ∧ x1 ≤ 5 ∧ 1 ≤ x3 ∧ x3 ≤ 20) ∧ α 121 (x1 : Int).toNat < 0 ∧ σ' 86 6 = σ 86 6) ∧ α' 91 = α 91 ∧ α' 92 = α 92) ∨ ((v = -12 ∧ (0 ≤ x1 ∧ x1 ≤ 5 ∧ 1 ≤ x3 ∧ x3 ≤ 20) ∧ 0 ≤ α 121 (x1 : Int).toNat ∧ ¬ α 121 (x1 : Int).toNat = 60 ∧ σ' 86 6 = σ 86 6) ∧ α' 91 = α 91 ∧ α' 92 = α 92) ∨ ((((0 ≤ x1 ∧ x1 ≤ 5 ∧ 1 ≤ x3 ∧ x3 ≤ 20) ∧ α 121 (x1 : Int).toNat = 60) ∧ (v, σ' 86 6, α' 91, α' 92) = qpl (α 123) (60 * x1) (α 122 (x1 : Int).toNat) x2 (x3 : Int).toNat 0 (σ 86 6) (α 91) (α 92)))) : σ 86 6 ≤ σ' 86 6 := by
  rcases h with ⟨h, _, _⟩ | ⟨h, _, _⟩ | ⟨h, _, _⟩ | ⟨h, e⟩
  · omega
  · omega
  · omega
  · have hm := qpl_mono (f := α 123) (b := 60 * x1) (len := α 122 (x1 : Int).toNat) (i := x2) (x3 : Int).toNat 0 (σ 86 6) (α 91) (α 92)
    rw [← e] at hm
    exact hm
theorem qR2_0 {s g : Nat → Nat → Int} (hok : qo_ok s g) : qR2 (qJ_s s) (qJ_r g) := by
  refine ⟨rfl, fun j hj => absurd (show (j : Int) < 0 from hj) (by omega), fun x y hx hy => ?_⟩
  have e : qTb (qJ_r g 24) x y = g 24 (x * 32 + y).toNat := rfl
  have h := hok.2.2.1 24 (Or.inl rfl) (x * 32 + y : Int).toNat (by omega)
  rw [e, h]
  by_cases c : x = y
  · rw [if_pos (by omega)]
    exact ⟨by decide, fun _ => c, fun n _ => by omega⟩
  · rw [if_neg (by omega)]
    refine ⟨by decide, fun hl => absurd hl (by decide), fun n hw => absurd (qWk_iso (fun q ha => ?_) hw) c⟩
    obtain ⟨k, h1, h2⟩ := ha
    exact absurd (show (k : Int) < 0 from h1) (by omega)
