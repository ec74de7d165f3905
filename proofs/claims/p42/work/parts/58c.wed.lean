theorem qR2_up {S : List (Nat × Nat)} {R : List Nat} {σ α σ' α' : Nat → Nat → Int} (hG : qFr S R σ α σ' α') (hs : [(23, 1), (86, 11)].all (fun x => !S.contains x) = true) (hr : [24, 94, 95].all (fun x => !R.contains x) = true) (h6 : σ 86 6 ≤ σ' 86 6) (h : qR2 σ α) : qR2 σ' α' := by
  have es : ∀ a k, (a, k) ∈ [(23, 1), (86, 11)] → σ' a k = σ a k := fun a k hm => hG.1 a k (fun hn => by
    have h1 := List.all_eq_true.mp hs (a, k) hm
    rw [List.contains_iff_mem.mpr hn] at h1
    exact absurd h1 (by decide))
  have er : ∀ a, a ∈ [24, 94, 95] → α' a = α a := fun a hm => hG.2 a (fun hn => by
    have h1 := List.all_eq_true.mp hr a hm
    rw [List.contains_iff_mem.mpr hn] at h1
    exact absurd h1 (by decide))
  obtain ⟨r1, r2, r3⟩ := h
  unfold qR2 qE
  rw [es 23 1 (by decide), es 86 11 (by decide), er 24 (by decide), er 94 (by decide), er 95 (by decide)]
  exact ⟨r1, fun j hj => by have := r2 j hj; omega, r3⟩
theorem qR2_fr {S : List (Nat × Nat)} {R : List Nat} {σ α σ' α' : Nat → Nat → Int} (hG : qFr S R σ α σ' α') (hs : [(23, 1), (86, 11), (86, 6)].all (fun x => !S.contains x) = true) (hr : [24, 94, 95].all (fun x => !R.contains x) = true) (h : qR2 σ α) : qR2 σ' α' := by
  have e6 : σ' 86 6 = σ 86 6 := hG.1 86 6 (fun hn => by
    have h1 := List.all_eq_true.mp hs (86, 6) (by decide)
    rw [List.contains_iff_mem.mpr hn] at h1
    exact absurd h1 (by decide))
  refine qR2_up hG ?_ hr (by omega) h
  rw [List.all_eq_true] at hs ⊢
  exact fun x hx => hs x (by revert x; decide)
theorem qR2_wd {S : List (Nat × Nat)} {R : List Nat} {σ α σ' α' : Nat → Nat → Int} (hG : qFr S R σ α σ' α') (hs : [(23, 1), (86, 6)].all (fun x => !S.contains x) = true) (hr : [24].all (fun x => !R.contains x) = true) (h11 : σ' 86 11 = σ 86 11) (hx : ∀ j : Nat, (j : Int) < σ 86 11 → α' 94 j = α 94 j ∧ α' 95 j = α 95 j) (h : qR2 σ α) : qR2 σ' α' := by
  have es : ∀ a k, (a, k) ∈ [(23, 1), (86, 6)] → σ' a k = σ a k := fun a k hm => hG.1 a k (fun hn => by
    have h1 := List.all_eq_true.mp hs (a, k) hm
    rw [List.contains_iff_mem.mpr hn] at h1
    exact absurd h1 (by decide))
  have er : ∀ a, a ∈ [24] → α' a = α a := fun a hm => hG.2 a (fun hn => by
    have h1 := List.all_eq_true.mp hr a hm
    rw [List.contains_iff_mem.mpr hn] at h1
    exact absurd h1 (by decide))
  obtain ⟨r1, r2, r3⟩ := h
  unfold qR2 qE
  rw [es 23 1 (by decide), es 86 6 (by decide), h11, er 24 (by decide)]
  refine ⟨r1, fun j hj => ?_, fun x y h1 h2 => qDi_cg (fun k hk => (hx k hk).1) (fun k hk => (hx k hk).2) (r3 x y h1 h2)⟩
  rw [(hx j hj).1, (hx j hj).2]
  exact r2 j hj

set_option maxHeartbeats 4000000 in
set_option maxRecDepth 20000 in
/-- OneRoofModel.wed -/
theorem sf_254_86x {L : Nat} {xs : Nat → Int} {vb : Bool} {d : Nat} {σ α : Nat → Nat → Int} {κ : Nat → Option Nat} {ρ : Nat} {x1 : Int} {x2 : Int} {x3 : Int} (hI : qI σ α κ ρ) (r1 : (-2147483648) ≤ x1 ∧ x1 ≤ 2147483647) (r2 : (-2147483648) ≤ x2 ∧ x2 ≤ 2147483647) (r3 : (-2147483648) ≤ x3 ∧ x3 ≤ 2147483647) (p0 : σ 86 11 ≤ 60) : qm_T (qe L xs vb) (d + 6) 254 [.ref 86, .int (qz x1), .int (qz x2), .int (qz x3)] (qw σ α κ ρ) (fun r w' => ∃ σ' α', w' = qw σ' α' κ ρ ∧ qI σ' α' κ ρ ∧ qFr [(86, 11), (86, 15), (86, 23)] [94, 95, 96, 119] σ α σ' α' ∧ σ' 86 11 = σ 86 11 ∧ ∃ v : Int, r = some (.int (qz v)) ∧ ((-2147483648) ≤ v ∧ v ≤ 2147483647) ∧ (∀ j : Nat, (j : Int) < σ 86 11 → α' 94 j = α 94 j ∧ α' 95 j = α 95 j)) := by
  refine qr_start (d := d + 5) qv_e254 (Nat.le_of_ble_eq_true rfl) ?_
  show qr_W (qe L xs vb) (d + 5) qx_e254 _ (0, [(0, .ref 86), (1, .int (qz x1)), (2, .int (qz x2)), (3, .int (qz x3))], [], _, 0, 0)
  have hF0 := qFr_rf [(86, 11), (86, 15), (86, 23)] [94, 95, 96, 119] σ α
  have hz86_11 : 0 ≤ σ 86 11 ∧ σ 86 11 ≤ 61 := hI.1 86 11
  have hz86_6 : 0 ≤ σ 86 6 ∧ σ 86 6 ≤ 32 := hI.1 86 6
  refine qr_aload_n 1 rfl rfl rfl ?_
  refine qr_iload_n 2 rfl rfl rfl ?_
  refine qr_callN 5 rfl rfl rfl (sf_191_86 (d := d + 2) hI (by omega)) ?_
  have hs3 : 0 ≤ σ 86 6 ∧ σ 86 6 ≤ 32 := hI.1 86 6
  rintro _ _ ⟨rfl, v1, rfl, hv1, hp2⟩
  show qr_W (qe L xs vb) (d + 5) qx_e254 _ (5, _, [.int (qz v1)], qw σ α κ ρ, 0, 0)
  refine qr_if_eq 40 8 rfl rfl rfl (by omega) (fun h4 => ?_) (fun h4 => ?_)
  · skip
    refine qr_iconst 41 rfl rfl ?_
    refine qr_retI rfl rfl (by decide) (by decide) ?_
    exact ⟨_, _, rfl, hI, hF0, (by have hw : σ 86 11 = (σ 86 11) := rfl; omega), (-1), rfl, by omega, (fun j hj => ⟨rfl, rfl⟩)⟩
  · skip
    refine qr_aload_n 9 rfl rfl rfl ?_
    refine qr_iload_n 10 rfl rfl rfl ?_
    refine qr_bipush 12 rfl (by decide) rfl ?_
    refine qr_idiv 13 rfl (by omega) (by omega) rfl ?_
    refine qr_iload_n 14 rfl rfl rfl ?_
    refine qr_bipush 16 rfl (by decide) rfl ?_
    refine qr_irem 17 rfl (by omega) (by omega) rfl ?_
    refine qr_callN 20 rfl rfl rfl (sf_185_86 (d := d + 4) hI (by omega) (by omega)) ?_
    rintro _ _ ⟨rfl, v5, rfl, hv5⟩
    show qr_W (qe L xs vb) (d + 5) qx_e254 _ (20, _, [.int (qz v5)], qw σ α κ ρ, 0, 0)
    refine qr_if_ne 40 23 rfl rfl rfl (by omega) (fun h6 => ?_) (fun h6 => ?_)
    · skip
      refine qr_iconst 41 rfl rfl ?_
      refine qr_retI rfl rfl (by decide) (by decide) ?_
      exact ⟨_, _, rfl, hI, hF0, (by have hw : σ 86 11 = (σ 86 11) := rfl; omega), (-1), rfl, by omega, (fun j hj => ⟨rfl, rfl⟩)⟩
    · skip
      refine qr_iload_n 24 rfl rfl rfl ?_
      refine qr_callN 27 rfl rfl rfl (sf_192 (d := d + 3) hI (by omega)) ?_
      rintro _ _ ⟨rfl, v7, rfl, hv7, hp8⟩
      show qr_W (qe L xs vb) (d + 5) qx_e254 _ (27, _, [.int (qz v7)], qw σ α κ ρ, 0, 0)
      refine qr_if_eq 40 30 rfl rfl rfl (by omega) (fun h9 => ?_) (fun h9 => ?_)
      · skip
        refine qr_iconst 41 rfl rfl ?_
        refine qr_retI rfl rfl (by decide) (by decide) ?_
        exact ⟨_, _, rfl, hI, hF0, (by have hw : σ 86 11 = (σ 86 11) := rfl; omega), (-1), rfl, by omega, (fun j hj => ⟨rfl, rfl⟩)⟩
      · skip
        refine qr_iload_n 31 rfl rfl rfl ?_
        refine qr_i2l 32 rfl (by omega) rfl ?_
        refine qr_lconst 33 rfl rfl ?_
        refine qy_vl 0 rfl ?_
        refine qr_lconst 34 rfl rfl ?_
        refine qy_vl 1 rfl ?_
        refine qr_callN 37 rfl rfl rfl (sf_176 (d := d + 4) hI (by omega) (by omega) (by omega)) ?_
        rintro _ _ ⟨rfl, v10, rfl, hv10, hp11⟩
        show qr_W (qe L xs vb) (d + 5) qx_e254 _ (37, _, [.int (qz v10)], qw σ α κ ρ, 0, 0)
        refine qr_if_ne 42 40 rfl rfl rfl (by omega) (fun h12 => ?_) (fun h12 => ?_)
        · skip
          refine qr_iconst 43 rfl rfl ?_
          refine qr_istore _ 45 rfl (by decide) rfl rfl ?_
          refine qr_iconst 46 rfl rfl ?_
          refine qr_istore _ 48 rfl (by decide) rfl rfl ?_
          have hL353407 : ∀ (n : Nat) (ls : qm_L) (u353394 u353396 : Int) (σ353397 α353398 : Nat → Nat → Int), 32 - u353396 < (n : Int) → qm_get ls 0 = some (.ref 86) → qm_get ls 1 = some (.int (qz x1)) → qm_get ls 2 = some (.int (qz x2)) → qm_get ls 3 = some (.int (qz x3)) → qm_get ls 4 = some (.int (qz u353394)) → qm_get ls 5 = some (.int (qz u353396)) → ((-2147483648) ≤ u353394 ∧ u353394 ≤ 2147483647) → (0 ≤ u353396 ∧ u353396 ≤ 32) → qI σ353397 α353398 κ ρ → qFr [(86, 11), (86, 15), (86, 23)] [94, 95, 96, 119] σ α σ353397 α353398 → σ353397 86 6 = (σ 86 6) → σ353397 86 11 = (σ 86 11) → α353398 94 = (α 94) → α353398 95 = (α 95) → qr_W (qe L xs vb) (d + 5) qx_e254 (fun r w' => ∃ σ' α', w' = qw σ' α' κ ρ ∧ qI σ' α' κ ρ ∧ qFr [(86, 11), (86, 15), (86, 23)] [94, 95, 96, 119] σ α σ' α' ∧ σ' 86 11 = σ 86 11 ∧ ∃ v : Int, r = some (.int (qz v)) ∧ ((-2147483648) ≤ v ∧ v ≤ 2147483647) ∧ (∀ j : Nat, (j : Int) < σ 86 11 → α' 94 j = α 94 j ∧ α' 95 j = α 95 j)) (48, ls, [], qw σ353397 α353398 κ ρ, 0, 0) := by
            intro n
            induction n with
            | zero => intro ls u353394 u353396 σ353397 α353398 hm g353389 g353390 g353391 g353392 g353393 g353395 hf353405 hf353406 hI353399 hF353400 hk353401 hk353402 hk353403 hk353404; exact False.elim (by omega)
            | succ n ih353408 =>
              intro ls u353394 u353396 σ353397 α353398 hm g353389 g353390 g353391 g353392 g353393 g353395 hf353405 hf353406 hI353399 hF353400 hk353401 hk353402 hk353403 hk353404
              refine qr_iload 50 rfl g353395 rfl ?_
              refine qr_aload_n 51 rfl g353389 rfl ?_
              refine qr_get 54 rfl rfl rfl (by decide) rfl ?_
              refine qy_v (σ 86 6) ((hk353401).trans rfl) ?_
              refine qr_icmp_ge 148 57 rfl rfl rfl (by omega) (by omega) (fun h354819 => ?_) (fun h354819 => ?_)
              · skip
                refine qr_iload_n 149 rfl g353392 rfl ?_
                refine qr_iconst 150 rfl rfl ?_
                refine qr_icmp_ne 156 153 rfl rfl rfl (by omega) (by omega) (fun h354820 => ?_) (fun h354820 => ?_)
                · skip
                  refine qr_aload_n 157 rfl g353389 rfl ?_
                  refine qr_get 160 rfl rfl rfl (by decide) rfl ?_
                  refine qr_aload_n 161 rfl g353389 rfl ?_
                  refine qr_get 164 rfl rfl rfl (by decide) rfl ?_
                  refine qy_v (σ 86 11) ((hk353402).trans rfl) ?_
                  refine qr_iload_n 165 rfl g353390 rfl ?_
                  refine qr_bipush 167 rfl (by decide) rfl ?_
                  refine qr_idiv 168 rfl (by omega) (by omega) rfl ?_
                  refine qr_iastore 169 rfl (by decide) rfl (by omega) (by decide) rfl ?_
                  refine qy_wA (qw_r α353398 94 (qzu (α353398 94) ((σ 86 11) : Int).toNat (x1 / 100))) rfl (fun α354821 e354822 => ?_)
                  have hI354823 : qI σ353397 α354821 κ ρ := by rw [e354822]; exact qI_r94 hI353399 _ (show 0 ≤ (x1 / 100) ∧ (x1 / 100) ≤ 31 by omega) (by omega)
                  have hF354824 : qFr [(86, 11), (86, 15), (86, 23)] [94, 95, 96, 119] σ α σ353397 α354821 := by rw [e354822]; exact qFr_r hF353400 94 _ (by decide)
                  refine qr_aload_n 170 rfl g353389 rfl ?_
                  refine qr_get 173 rfl rfl rfl (by decide) rfl ?_
                  refine qr_aload_n 174 rfl g353389 rfl ?_
                  refine qr_get 177 rfl rfl rfl (by decide) rfl ?_
                  refine qy_v (σ 86 11) ((hk353402).trans rfl) ?_
                  refine qr_iload_n 178 rfl g353390 rfl ?_
                  refine qr_bipush 180 rfl (by decide) rfl ?_
                  refine qr_irem 181 rfl (by omega) (by omega) rfl ?_
                  refine qr_iastore 182 rfl (by decide) rfl (by omega) (by decide) rfl ?_
                  refine qy_wA (qw_r α354821 95 (qzu (α354821 95) ((σ 86 11) : Int).toNat (x1 % 100))) rfl (fun α354825 e354826 => ?_)
                  have hI354827 : qI σ353397 α354825 κ ρ := by rw [e354826]; exact qI_r95 hI354823 _ (show 0 ≤ (x1 % 100) ∧ (x1 % 100) ≤ 31 by omega) (by omega)
                  have hF354828 : qFr [(86, 11), (86, 15), (86, 23)] [94, 95, 96, 119] σ α σ353397 α354825 := by rw [e354826]; exact qFr_r hF354824 95 _ (by decide)
                  refine qr_aload_n 183 rfl g353389 rfl ?_
                  refine qr_dup 184 rfl rfl rfl ?_
                  refine qr_get 187 rfl rfl rfl (by decide) rfl ?_
                  refine qy_v (σ 86 11) ((hk353402).trans rfl) ?_
                  refine qr_iconst 188 rfl rfl ?_
                  refine qr_iadd 189 rfl rfl ?_
                  refine qr_put 192 rfl (by decide) rfl (Nat.le_of_ble_eq_true rfl) (Nat.le_of_ble_eq_true rfl) (Or.inl rfl) (qr_fitI rfl _) rfl ?_
                  refine qy_wS (qw_s σ353397 86 11 ((σ 86 11) + 1)) rfl (fun σ354829 e354830 => ?_)
                  have hF354832 : qFr [(86, 11), (86, 15), (86, 23)] [94, 95, 96, 119] σ α σ354829 α354825 := by rw [e354830]; exact qFr_s hF354828 86 11 _ (by decide)
                  refine qr_aload_n 193 rfl g353389 rfl ?_
                  refine qr_iconst 194 rfl rfl ?_
                  refine qr_put 197 rfl (by decide) rfl (Nat.le_of_ble_eq_true rfl) (Nat.le_of_ble_eq_true rfl) (Or.inl rfl) (qr_fitZ rfl (by omega)) rfl ?_
                  refine qy_wS (qw_s σ354829 86 15 0) rfl (fun σ354833 e354834 => ?_)
                  have hI354835 : qI σ354833 α354825 κ ρ := by rw [e354834, e354830]; exact qI_s1115 hI354827 (by omega) (qE_new hI354827 (p := (x1 / 100)) (q := (x1 % 100)) (k := ((σ 86 11) : Int).toNat) (by have hw : σ353397 86 11 = (σ 86 11) := (hk353402).trans rfl; omega) (by rw [e354826, qw_r_ne (by decide), e354822, qw_r_eq]; unfold qzu; rw [if_pos rfl]) (by rw [e354826, qw_r_eq]; unfold qzu; rw [if_pos rfl]) (by have hw : σ353397 86 6 = (σ 86 6) := (hk353401).trans rfl; omega) (by have hw : σ353397 86 6 = (σ 86 6) := (hk353401).trans rfl; omega))
                  have hF354836 : qFr [(86, 11), (86, 15), (86, 23)] [94, 95, 96, 119] σ α σ354833 α354825 := by rw [e354834]; exact qFr_s hF354832 86 15 _ (by decide)
                  refine qr_iconst 198 rfl rfl ?_
                  refine qr_istore _ 200 rfl (by decide) rfl rfl ?_
                  refine qr_iconst 201 rfl rfl ?_
                  refine qr_istore _ 203 rfl (by decide) rfl rfl ?_
                  have hL385185 : ∀ (n : Nat) (ls : qm_L) (u385172 u385174 : Int) (σ385175 α385176 : Nat → Nat → Int), 32 - u385174 < (n : Int) → qm_get ls 0 = some (.ref 86) → qm_get ls 2 = some (.int (qz x2)) → qm_get ls 5 = some (.int (qz u385172)) → qm_get ls 6 = some (.int (qz u385174)) → ((-2147483648) ≤ u385172 ∧ u385172 ≤ 2147483647) → (0 ≤ u385174 ∧ u385174 ≤ 32) → qI σ385175 α385176 κ ρ → qFr [(86, 11), (86, 15), (86, 23)] [94, 95, 96, 119] σ α σ385175 α385176 → σ385175 86 6 = (σ 86 6) → σ385175 86 11 = ((σ 86 11) + 1) → α385176 94 = (qzu (α 94) ((σ 86 11) : Int).toNat (x1 / 100)) → α385176 95 = (qzu (α 95) ((σ 86 11) : Int).toNat (x1 % 100)) → qr_W (qe L xs vb) (d + 5) qx_e254 (fun r w' => ∃ σ' α', w' = qw σ' α' κ ρ ∧ qI σ' α' κ ρ ∧ qFr [(86, 11), (86, 15), (86, 23)] [94, 95, 96, 119] σ α σ' α' ∧ σ' 86 11 = σ 86 11 ∧ ∃ v : Int, r = some (.int (qz v)) ∧ ((-2147483648) ≤ v ∧ v ≤ 2147483647) ∧ (∀ j : Nat, (j : Int) < σ 86 11 → α' 94 j = α 94 j ∧ α' 95 j = α 95 j)) (203, ls, [], qw σ385175 α385176 κ ρ, 0, 0) := by
                    intro n
                    induction n with
                    | zero => intro ls u385172 u385174 σ385175 α385176 hm g385169 g385170 g385171 g385173 hf385183 hf385184 hI385177 hF385178 hk385179 hk385180 hk385181 hk385182; exact False.elim (by omega)
                    | succ n ih385186 =>
                      intro ls u385172 u385174 σ385175 α385176 hm g385169 g385170 g385171 g385173 hf385183 hf385184 hI385177 hF385178 hk385179 hk385180 hk385181 hk385182
                      refine qr_iload 205 rfl g385173 rfl ?_
                      refine qr_aload_n 206 rfl g385169 rfl ?_
                      refine qr_get 209 rfl rfl rfl (by decide) rfl ?_
                      refine qy_v (σ 86 6) ((hk385179).trans rfl) ?_
                      refine qr_icmp_ge 292 212 rfl rfl rfl (by omega) (by omega) (fun h386267 => ?_) (fun h386267 => ?_)
                      · skip
                        refine qr_aload_n 293 rfl g385169 rfl ?_
                        refine qr_dup 294 rfl rfl rfl ?_
                        refine qr_get 297 rfl rfl rfl (by decide) rfl ?_
                        refine qy_v ((σ 86 11) + 1) ((hk385180).trans rfl) ?_
                        refine qr_iconst 298 rfl rfl ?_
                        refine qr_isub 299 rfl rfl ?_
                        refine qr_put 302 rfl (by decide) rfl (Nat.le_of_ble_eq_true rfl) (Nat.le_of_ble_eq_true rfl) (Or.inl rfl) (qr_fitI rfl _) rfl ?_
                        refine qy_wS (qw_s σ385175 86 11 (((σ 86 11) + 1) - 1)) rfl (fun σ386268 e386269 => ?_)
                        have hF386271 : qFr [(86, 11), (86, 15), (86, 23)] [94, 95, 96, 119] σ α σ386268 α385176 := by rw [e386269]; exact qFr_s hF385178 86 11 _ (by decide)
                        refine qr_aload_n 303 rfl g385169 rfl ?_
                        refine qr_iconst 304 rfl rfl ?_
                        refine qr_put 307 rfl (by decide) rfl (Nat.le_of_ble_eq_true rfl) (Nat.le_of_ble_eq_true rfl) (Or.inl rfl) (qr_fitZ rfl (by omega)) rfl ?_
                        refine qy_wS (qw_s σ386268 86 15 0) rfl (fun σ386272 e386273 => ?_)
                        have hI386274 : qI σ386272 α385176 κ ρ := by rw [e386273, e386269]; exact qI_s1115 hI385177 (by omega) (qE_less hI385177 (by have hw : σ385175 86 11 = ((σ 86 11) + 1) := (hk385180).trans rfl; omega))
                        have hF386275 : qFr [(86, 11), (86, 15), (86, 23)] [94, 95, 96, 119] σ α σ386272 α385176 := by rw [e386273]; exact qFr_s hF386271 86 15 _ (by decide)
                        refine qr_iload 309 rfl g385171 rfl ?_
                        refine qr_retI rfl rfl (by decide) (by decide) ?_
                        exact ⟨_, _, rfl, hI386274, hF386275, (by have hw : σ386272 86 11 = (((σ 86 11) + 1) - 1) := (congrFun (congrFun e386273 86) 11).trans ((congrFun (congrFun e386269 86) 11).trans rfl); omega), u385172, rfl, by omega, (fun j hj => by rw [hk385181, hk385182]; unfold qzu; rw [if_neg (by omega), if_neg (by omega)]; exact ⟨rfl, rfl⟩)⟩
                      · skip
                        refine qr_iconst 213 rfl rfl ?_
                        refine qr_istore _ 215 rfl (by decide) rfl rfl ?_
                        have hL387301 : ∀ (n : Nat) (ls : qm_L) (u387287 u387290 : Int) (σ387291 α387292 : Nat → Nat → Int), 31 - u387290 < (n : Int) → qm_get ls 0 = some (.ref 86) → qm_get ls 2 = some (.int (qz x2)) → qm_get ls 5 = some (.int (qz u387287)) → qm_get ls 6 = some (.int (qz u385174)) → qm_get ls 7 = some (.int (qz u387290)) → ((-2147483648) ≤ u387287 ∧ u387287 ≤ 2147483647) → (0 ≤ u387290 ∧ u387290 ≤ 31) → qI σ387291 α387292 κ ρ → qFr [(86, 11), (86, 15), (86, 23)] [94, 95, 96, 119] σ α σ387291 α387292 → σ387291 86 6 = (σ 86 6) → σ387291 86 11 = ((σ 86 11) + 1) → α387292 94 = (qzu (α 94) ((σ 86 11) : Int).toNat (x1 / 100)) → α387292 95 = (qzu (α 95) ((σ 86 11) : Int).toNat (x1 % 100)) → qr_W (qe L xs vb) (d + 5) qx_e254 (fun r w' => ∃ σ' α', w' = qw σ' α' κ ρ ∧ qI σ' α' κ ρ ∧ qFr [(86, 11), (86, 15), (86, 23)] [94, 95, 96, 119] σ α σ' α' ∧ σ' 86 11 = σ 86 11 ∧ ∃ v : Int, r = some (.int (qz v)) ∧ ((-2147483648) ≤ v ∧ v ≤ 2147483647) ∧ (∀ j : Nat, (j : Int) < σ 86 11 → α' 94 j = α 94 j ∧ α' 95 j = α 95 j)) (215, ls, [], qw σ387291 α387292 κ ρ, 0, 0) := by
                          intro n
                          induction n with
                          | zero => intro ls u387287 u387290 σ387291 α387292 hm g387284 g387285 g387286 g387288 g387289 hf387299 hf387300 hI387293 hF387294 hk387295 hk387296 hk387297 hk387298; exact False.elim (by omega)
                          | succ n ih387302 =>
                            intro ls u387287 u387290 σ387291 α387292 hm g387284 g387285 g387286 g387288 g387289 hf387299 hf387300 hI387293 hF387294 hk387295 hk387296 hk387297 hk387298
                            refine qr_iload 217 rfl g387289 rfl ?_
                            refine qr_iload 219 rfl g387288 rfl ?_
                            refine qr_icmp_ge 286 222 rfl rfl rfl (by omega) (by omega) (fun h387335 => ?_) (fun h387335 => ?_)
                            · skip
                              refine qr_iinc _ 289 rfl g387288 (by decide) rfl rfl ?_
                              refine qr_goto 203 rfl rfl ?_
                              exact ih385186 _ u387287 (u385174 + 1) σ387291 α387292 (by omega) (qm_gk g387284 (by decide) (Or.inl (by decide))) (qm_gk g387285 (by decide) (Or.inl (by decide))) (qm_gk g387286 (by decide) (Or.inr rfl)) (qm_ge _ _ _) (by omega) (by omega) hI387293 hF387294 ((hk387295).trans rfl) ((hk387296).trans rfl) hk387297 hk387298
                            · skip
                              refine qr_iload 224 rfl g387286 rfl ?_
                              refine qr_aload_n 225 rfl g387284 rfl ?_
                              refine qr_get 228 rfl rfl rfl (by decide) rfl ?_
                              refine qr_bipush 230 rfl (by decide) rfl ?_
                              refine qr_iload 232 rfl g387288 rfl ?_
                              refine qr_imul 233 rfl rfl ?_
                              refine qr_iload 235 rfl g387289 rfl ?_
                              refine qr_iadd 236 rfl rfl ?_
                              refine qr_baload 237 rfl (by decide) rfl (by omega) (by decide) rfl ?_
                              refine qr_topI (fun v387336 hv387336 => ?_)
                              have hs387337 : 0 ≤ v387336 ∧ v387336 ≤ 1 := by rw [hv387336]; exact hI387293.2.1 119 _ (show _ < 1024 by omega)
                              have hJ387360 : ∀ (ls : qm_L) (u387350 : Int) (σ387351 α387352 : Nat → Nat → Int), qm_get ls 0 = some (.ref 86) → qm_get ls 2 = some (.int (qz x2)) → qm_get ls 6 = some (.int (qz u385174)) → qm_get ls 7 = some (.int (qz u387290)) → (0 ≤ u387350 ∧ u387350 ≤ 1) → qI σ387351 α387352 κ ρ → qFr [(86, 11), (86, 15), (86, 23)] [94, 95, 96, 119] σ α σ387351 α387352 → σ387351 86 6 = (σ 86 6) → σ387351 86 11 = ((σ 86 11) + 1) → α387352 94 = (qzu (α 94) ((σ 86 11) : Int).toNat (x1 / 100)) → α387352 95 = (qzu (α 95) ((σ 86 11) : Int).toNat (x1 % 100)) → qr_W (qe L xs vb) (d + 5) qx_e254 (fun r w' => ∃ σ' α', w' = qw σ' α' κ ρ ∧ qI σ' α' κ ρ ∧ qFr [(86, 11), (86, 15), (86, 23)] [94, 95, 96, 119] σ α σ' α' ∧ σ' 86 11 = σ 86 11 ∧ ∃ v : Int, r = some (.int (qz v)) ∧ ((-2147483648) ≤ v ∧ v ≤ 2147483647) ∧ (∀ j : Nat, (j : Int) < σ 86 11 → α' 94 j = α 94 j ∧ α' 95 j = α 95 j)) (277, ls, [.int (qz u387350), .int (qz u387287)], qw σ387351 α387352 κ ρ, 0, 0) := by
                                intro ls u387350 σ387351 α387352 g387346 g387347 g387348 g387349 hf387359 hI387353 hF387354 hk387355 hk387356 hk387357 hk387358
                                refine qr_iadd 278 rfl rfl ?_
                                refine qy_can (fun v387361 hv387361 => ?_)
                                refine qr_istore _ 280 rfl (by decide) rfl rfl ?_
                                refine qr_iinc _ 283 rfl (qm_gk g387349 (by decide) (Or.inl (by decide))) (by decide) rfl rfl ?_
                                refine qr_goto 215 rfl rfl ?_
                                exact ih387302 _ v387361 (u387290 + 1) σ387351 α387352 (by omega) (qm_gk (qm_gk g387346 (by decide) (Or.inl (by decide))) (by decide) (Or.inl (by decide))) (qm_gk (qm_gk g387347 (by decide) (Or.inl (by decide))) (by decide) (Or.inl (by decide))) (qm_gk (qm_ge _ _ _) (by decide) (Or.inl (by decide))) (qm_gk (qm_gk g387348 (by decide) (Or.inl (by decide))) (by decide) (Or.inr rfl)) (qm_ge _ _ _) (by omega) (by omega) hI387353 hF387354 ((hk387355).trans rfl) ((hk387356).trans rfl) hk387357 hk387358
                              refine qr_if_ne 276 240 rfl rfl rfl (by omega) (fun h387362 => ?_) (fun h387362 => ?_)
                              · skip
                                refine qr_iconst 277 rfl rfl ?_
                                exact hJ387360 _ 0 σ387291 α387292 g387284 g387285 g387288 g387289 (by omega) hI387293 hF387294 ((hk387295).trans rfl) ((hk387296).trans rfl) hk387297 hk387298
                              · skip
                                refine qr_aload_n 241 rfl g387284 rfl ?_
                                refine qr_iload 243 rfl g387288 rfl ?_
                                refine qr_callN 246 rfl rfl rfl (sf_181_86 (d := d + 4) hI387293 (by omega)) ?_
                                rintro _ _ ⟨rfl, v387363, rfl, hv387363⟩
                                show qr_W (qe L xs vb) (d + 5) qx_e254 _ (246, _, [.int (qz v387363), .int (qz u387287)], qw σ387291 α387292 κ ρ, 0, 0)
                                refine qr_if_ne 276 249 rfl rfl rfl (by omega) (fun h387364 => ?_) (fun h387364 => ?_)
                                · skip
                                  refine qr_iconst 277 rfl rfl ?_
                                  exact hJ387360 _ 0 σ387291 α387292 g387284 g387285 g387288 g387289 (by omega) hI387293 hF387294 ((hk387295).trans rfl) ((hk387296).trans rfl) hk387297 hk387298
                                · skip
                                  refine qr_aload_n 250 rfl g387284 rfl ?_
                                  refine qr_iload 252 rfl g387289 rfl ?_
                                  refine qr_callN 255 rfl rfl rfl (sf_181_86 (d := d + 4) hI387293 (by omega)) ?_
                                  rintro _ _ ⟨rfl, v387365, rfl, hv387365⟩
                                  show qr_W (qe L xs vb) (d + 5) qx_e254 _ (255, _, [.int (qz v387365), .int (qz u387287)], qw σ387291 α387292 κ ρ, 0, 0)
                                  refine qr_if_ne 276 258 rfl rfl rfl (by omega) (fun h387366 => ?_) (fun h387366 => ?_)
                                  · skip
                                    refine qr_iconst 277 rfl rfl ?_
                                    exact hJ387360 _ 0 σ387291 α387292 g387284 g387285 g387288 g387289 (by omega) hI387293 hF387294 ((hk387295).trans rfl) ((hk387296).trans rfl) hk387297 hk387298
                                  · skip
                                    refine qr_aload_n 259 rfl g387284 rfl ?_
                                    refine qr_iload 261 rfl g387288 rfl ?_
                                    refine qr_iload 263 rfl g387289 rfl ?_
                                    refine qr_iload_n 264 rfl g387285 rfl ?_
                                    refine qr_callN 267 rfl rfl rfl (sf_195_86 (d := d + 0) hI387293 (by omega) (by omega) (by omega)) ?_
                                    rintro _ _ ⟨σ387368, α387369, rfl, hI387370, hG387371, v387367, rfl, hv387367⟩
                                    have hF387372 : qFr [(86, 11), (86, 15), (86, 23)] [94, 95, 96, 119] σ α σ387368 α387369 := qFr_t hF387294 hG387371 (by decide) (by decide)
                                    show qr_W (qe L xs vb) (d + 5) qx_e254 _ (267, _, [.int (qz v387367), .int (qz u387287)], qw σ387368 α387369 κ ρ, 0, 0)
                                    refine qr_bipush 269 rfl (by decide) rfl ?_
                                    refine qr_icmp_eq 276 272 rfl rfl rfl (by omega) (by omega) (fun h387373 => ?_) (fun h387373 => ?_)
                                    · skip
                                      refine qr_iconst 277 rfl rfl ?_
                                      exact hJ387360 _ 0 σ387368 α387369 g387284 g387285 g387288 g387289 (by omega) hI387370 hF387372 ((hG387371.1 86 6 (by decide)).trans ((hk387295).trans rfl)) ((hG387371.1 86 11 (by decide)).trans ((hk387296).trans rfl)) ((hG387371.2 94 (by decide)).trans hk387297) ((hG387371.2 95 (by decide)).trans hk387298)
                                    · skip
                                      refine qr_iconst 273 rfl rfl ?_
                                      refine qr_goto 277 rfl rfl ?_
                                      exact hJ387360 _ 1 σ387368 α387369 g387284 g387285 g387288 g387289 (by omega) hI387370 hF387372 ((hG387371.1 86 6 (by decide)).trans ((hk387295).trans rfl)) ((hG387371.1 86 11 (by decide)).trans ((hk387296).trans rfl)) ((hG387371.2 94 (by decide)).trans hk387297) ((hG387371.2 95 (by decide)).trans hk387298)
                        exact hL387301 ((31 - 0 + 1 : Int)).toNat _ u385172 0 σ385175 α385176 (by omega) (qm_gk g385169 (by decide) (Or.inl (by decide))) (qm_gk g385170 (by decide) (Or.inl (by decide))) (qm_gk g385171 (by decide) (Or.inl (by decide))) (qm_gk g385173 (by decide) (Or.inr rfl)) (qm_ge _ _ _) (by omega) (by omega) hI385177 hF385178 ((hk385179).trans rfl) ((hk385180).trans rfl) hk385181 hk385182
                  exact hL385185 ((32 - 0 + 1 : Int)).toNat _ 0 0 σ354833 α354825 (by omega) (qm_gk (qm_gk g353389 (by decide) (Or.inl (by decide))) (by decide) (Or.inl (by decide))) (qm_gk (qm_gk g353391 (by decide) (Or.inl (by decide))) (by decide) (Or.inl (by decide))) (qm_gk (qm_ge _ _ _) (by decide) (Or.inr rfl)) (qm_ge _ _ _) (by omega) (by omega) hI354835 hF354836 ((congrFun (congrFun e354834 86) 6).trans ((congrFun (congrFun e354830 86) 6).trans ((hk353401).trans rfl))) ((congrFun (congrFun e354834 86) 11).trans ((congrFun (congrFun e354830 86) 11).trans rfl)) ((congrFun e354826 94).trans ((qw_r_ne (by decide)).trans ((congrFun e354822 94).trans (qw_r_eq.trans (congrArg (fun f => qzu f ((σ 86 11) : Int).toNat (x1 / 100)) hk353403))))) ((congrFun e354826 95).trans (qw_r_eq.trans (congrArg (fun f => qzu f ((σ 86 11) : Int).toNat (x1 % 100)) ((congrFun e354822 95).trans ((qw_r_ne (by decide)).trans hk353404)))))
                · skip
                  refine qr_iload 155 rfl g353393 rfl ?_
                  refine qr_retI rfl rfl (by decide) (by decide) ?_
                  exact ⟨_, _, rfl, hI353399, hF353400, (by have hw : σ353397 86 11 = (σ 86 11) := (hk353402).trans rfl; omega), u353394, rfl, by omega, (fun j hj => ⟨congrFun hk353403 j, congrFun hk353404 j⟩)⟩
              · skip
                refine qr_iconst 58 rfl rfl ?_
                refine qr_istore _ 60 rfl (by decide) rfl rfl ?_
                have hL388709 : ∀ (n : Nat) (ls : qm_L) (u388695 u388698 : Int) (σ388699 α388700 : Nat → Nat → Int), 31 - u388698 < (n : Int) → qm_get ls 0 = some (.ref 86) → qm_get ls 1 = some (.int (qz x1)) → qm_get ls 2 = some (.int (qz x2)) → qm_get ls 3 = some (.int (qz x3)) → qm_get ls 4 = some (.int (qz u388695)) → qm_get ls 5 = some (.int (qz u353396)) → qm_get ls 6 = some (.int (qz u388698)) → ((-2147483648) ≤ u388695 ∧ u388695 ≤ 2147483647) → (0 ≤ u388698 ∧ u388698 ≤ 31) → qI σ388699 α388700 κ ρ → qFr [(86, 11), (86, 15), (86, 23)] [94, 95, 96, 119] σ α σ388699 α388700 → σ388699 86 6 = (σ 86 6) → σ388699 86 11 = (σ 86 11) → α388700 94 = (α 94) → α388700 95 = (α 95) → qr_W (qe L xs vb) (d + 5) qx_e254 (fun r w' => ∃ σ' α', w' = qw σ' α' κ ρ ∧ qI σ' α' κ ρ ∧ qFr [(86, 11), (86, 15), (86, 23)] [94, 95, 96, 119] σ α σ' α' ∧ σ' 86 11 = σ 86 11 ∧ ∃ v : Int, r = some (.int (qz v)) ∧ ((-2147483648) ≤ v ∧ v ≤ 2147483647) ∧ (∀ j : Nat, (j : Int) < σ 86 11 → α' 94 j = α 94 j ∧ α' 95 j = α 95 j)) (60, ls, [], qw σ388699 α388700 κ ρ, 0, 0) := by
                  intro n
                  induction n with
                  | zero => intro ls u388695 u388698 σ388699 α388700 hm g388690 g388691 g388692 g388693 g388694 g388696 g388697 hf388707 hf388708 hI388701 hF388702 hk388703 hk388704 hk388705 hk388706; exact False.elim (by omega)
                  | succ n ih388710 =>
                    intro ls u388695 u388698 σ388699 α388700 hm g388690 g388691 g388692 g388693 g388694 g388696 g388697 hf388707 hf388708 hI388701 hF388702 hk388703 hk388704 hk388705 hk388706
                    refine qr_iload 62 rfl g388697 rfl ?_
                    refine qr_iload 64 rfl g388696 rfl ?_
                    refine qr_icmp_ge 142 67 rfl rfl rfl (by omega) (by omega) (fun h388754 => ?_) (fun h388754 => ?_)
                    · skip
                      refine qr_iinc _ 145 rfl g388696 (by decide) rfl rfl ?_
                      refine qr_goto 48 rfl rfl ?_
                      exact ih353408 _ u388695 (u353396 + 1) σ388699 α388700 (by omega) (qm_gk g388690 (by decide) (Or.inl (by decide))) (qm_gk g388691 (by decide) (Or.inl (by decide))) (qm_gk g388692 (by decide) (Or.inl (by decide))) (qm_gk g388693 (by decide) (Or.inl (by decide))) (qm_gk g388694 (by decide) (Or.inr rfl)) (qm_ge _ _ _) (by omega) (by omega) hI388701 hF388702 ((hk388703).trans rfl) ((hk388704).trans rfl) hk388705 hk388706
                    · skip
                      refine qr_aload_n 68 rfl g388690 rfl ?_
                      refine qr_iload 70 rfl g388696 rfl ?_
                      refine qr_callN 73 rfl rfl rfl (sf_181_86 (d := d + 4) hI388701 (by omega)) ?_
                      rintro _ _ ⟨rfl, v388755, rfl, hv388755⟩
                      show qr_W (qe L xs vb) (d + 5) qx_e254 _ (73, _, [.int (qz v388755)], qw σ388699 α388700 κ ρ, 0, 0)
                      have hJ388780 : ∀ (ls : qm_L) (u388770 : Int) (σ388771 α388772 : Nat → Nat → Int), qm_get ls 0 = some (.ref 86) → qm_get ls 1 = some (.int (qz x1)) → qm_get ls 2 = some (.int (qz x2)) → qm_get ls 3 = some (.int (qz x3)) → qm_get ls 4 = some (.int (qz u388695)) → qm_get ls 5 = some (.int (qz u353396)) → qm_get ls 6 = some (.int (qz u388698)) → (0 ≤ u388770 ∧ u388770 ≤ 1) → qI σ388771 α388772 κ ρ → qFr [(86, 11), (86, 15), (86, 23)] [94, 95, 96, 119] σ α σ388771 α388772 → σ388771 86 6 = (σ 86 6) → σ388771 86 11 = (σ 86 11) → α388772 94 = (α 94) → α388772 95 = (α 95) → qr_W (qe L xs vb) (d + 5) qx_e254 (fun r w' => ∃ σ' α', w' = qw σ' α' κ ρ ∧ qI σ' α' κ ρ ∧ qFr [(86, 11), (86, 15), (86, 23)] [94, 95, 96, 119] σ α σ' α' ∧ σ' 86 11 = σ 86 11 ∧ ∃ v : Int, r = some (.int (qz v)) ∧ ((-2147483648) ≤ v ∧ v ≤ 2147483647) ∧ (∀ j : Nat, (j : Int) < σ 86 11 → α' 94 j = α 94 j ∧ α' 95 j = α 95 j)) (104, ls, [.int (qz u388770)], qw σ388771 α388772 κ ρ, 0, 0) := by
                        intro ls u388770 σ388771 α388772 g388763 g388764 g388765 g388766 g388767 g388768 g388769 hf388779 hI388773 hF388774 hk388775 hk388776 hk388777 hk388778
                        refine qr_istore _ 106 rfl (by decide) rfl rfl ?_
                        refine qr_aload_n 107 rfl (qm_gk g388763 (by decide) (Or.inl (by decide))) rfl ?_
                        refine qr_get 110 rfl rfl rfl (by decide) rfl ?_
                        refine qr_bipush 112 rfl (by decide) rfl ?_
                        refine qr_iload 114 rfl (qm_gk g388768 (by decide) (Or.inl (by decide))) rfl ?_
                        refine qr_imul 115 rfl rfl ?_
                        refine qr_iload 117 rfl (qm_gk g388769 (by decide) (Or.inr rfl)) rfl ?_
                        refine qr_iadd 118 rfl rfl ?_
                        refine qr_iload 120 rfl (qm_ge _ _ _) rfl ?_
                        refine qr_bastore 121 rfl (by decide) rfl (by omega) (by decide) (by omega) rfl ?_
                        refine qy_wA (qw_r α388772 119 (qzu (α388772 119) (((32 * u353396) + u388698) : Int).toNat u388770)) rfl (fun α388781 e388782 => ?_)
                        have hI388783 : qI σ388771 α388781 κ ρ := by rw [e388782]; exact qI_r hI388773 119 _ rfl (show 0 ≤ u388770 ∧ u388770 ≤ 1 by omega)
                        have hF388784 : qFr [(86, 11), (86, 15), (86, 23)] [94, 95, 96, 119] σ α σ388771 α388781 := by rw [e388782]; exact qFr_r hF388774 119 _ (by decide)
                        refine qr_iload 123 rfl (qm_gk g388767 (by decide) (Or.inl (by decide))) rfl ?_
                        refine qr_iload 125 rfl (qm_ge _ _ _) rfl ?_
                        have hJ388793 : ∀ (ls : qm_L) (u388791 : Int), qm_get ls 0 = some (.ref 86) → qm_get ls 1 = some (.int (qz x1)) → qm_get ls 2 = some (.int (qz x2)) → qm_get ls 3 = some (.int (qz x3)) → qm_get ls 5 = some (.int (qz u353396)) → qm_get ls 6 = some (.int (qz u388698)) → (0 ≤ u388791 ∧ u388791 ≤ 1) → qr_W (qe L xs vb) (d + 5) qx_e254 (fun r w' => ∃ σ' α', w' = qw σ' α' κ ρ ∧ qI σ' α' κ ρ ∧ qFr [(86, 11), (86, 15), (86, 23)] [94, 95, 96, 119] σ α σ' α' ∧ σ' 86 11 = σ 86 11 ∧ ∃ v : Int, r = some (.int (qz v)) ∧ ((-2147483648) ≤ v ∧ v ≤ 2147483647) ∧ (∀ j : Nat, (j : Int) < σ 86 11 → α' 94 j = α 94 j ∧ α' 95 j = α 95 j)) (133, ls, [.int (qz u388791), .int (qz u388695)], qw σ388771 α388781 κ ρ, 0, 0) := by
                          intro ls u388791 g388785 g388786 g388787 g388788 g388789 g388790 hf388792
                          refine qr_iadd 134 rfl rfl ?_
                          refine qy_can (fun v388794 hv388794 => ?_)
                          refine qr_istore _ 136 rfl (by decide) rfl rfl ?_
                          refine qr_iinc _ 139 rfl (qm_gk g388790 (by decide) (Or.inl (by decide))) (by decide) rfl rfl ?_
                          refine qr_goto 60 rfl rfl ?_
                          exact ih388710 _ v388794 (u388698 + 1) σ388771 α388781 (by omega) (qm_gk (qm_gk g388785 (by decide) (Or.inl (by decide))) (by decide) (Or.inl (by decide))) (qm_gk (qm_gk g388786 (by decide) (Or.inl (by decide))) (by decide) (Or.inl (by decide))) (qm_gk (qm_gk g388787 (by decide) (Or.inl (by decide))) (by decide) (Or.inl (by decide))) (qm_gk (qm_gk g388788 (by decide) (Or.inr rfl)) (by decide) (Or.inl (by decide))) (qm_gk (qm_ge _ _ _) (by decide) (Or.inl (by decide))) (qm_gk (qm_gk g388789 (by decide) (Or.inl (by decide))) (by decide) (Or.inr rfl)) (qm_ge _ _ _) (by omega) (by omega) hI388783 hF388784 ((hk388775).trans rfl) ((hk388776).trans rfl) ((congrFun e388782 94).trans ((qw_r_ne (by decide)).trans hk388777)) ((congrFun e388782 95).trans ((qw_r_ne (by decide)).trans hk388778))
                        refine qr_if_eq 132 128 rfl rfl rfl (by omega) (fun h388795 => ?_) (fun h388795 => ?_)
                        · skip
                          refine qr_iconst 133 rfl rfl ?_
                          exact hJ388793 _ 0 (qm_gk g388763 (by decide) (Or.inl (by decide))) (qm_gk g388764 (by decide) (Or.inl (by decide))) (qm_gk g388765 (by decide) (Or.inl (by decide))) (qm_gk g388766 (by decide) (Or.inl (by decide))) (qm_gk g388768 (by decide) (Or.inl (by decide))) (qm_gk g388769 (by decide) (Or.inr rfl)) (by omega)
                        · skip
                          refine qr_iconst 129 rfl rfl ?_
                          refine qr_goto 133 rfl rfl ?_
                          exact hJ388793 _ 1 (qm_gk g388763 (by decide) (Or.inl (by decide))) (qm_gk g388764 (by decide) (Or.inl (by decide))) (qm_gk g388765 (by decide) (Or.inl (by decide))) (qm_gk g388766 (by decide) (Or.inl (by decide))) (qm_gk g388768 (by decide) (Or.inl (by decide))) (qm_gk g388769 (by decide) (Or.inr rfl)) (by omega)
                      refine qr_if_ne 103 76 rfl rfl rfl (by omega) (fun h388796 => ?_) (fun h388796 => ?_)
                      · skip
                        refine qr_iconst 104 rfl rfl ?_
                        exact hJ388780 _ 0 σ388699 α388700 g388690 g388691 g388692 g388693 g388694 g388696 g388697 (by omega) hI388701 hF388702 ((hk388703).trans rfl) ((hk388704).trans rfl) hk388705 hk388706
                      · skip
                        refine qr_aload_n 77 rfl g388690 rfl ?_
                        refine qr_iload 79 rfl g388697 rfl ?_
                        refine qr_callN 82 rfl rfl rfl (sf_181_86 (d := d + 4) hI388701 (by omega)) ?_
                        rintro _ _ ⟨rfl, v388797, rfl, hv388797⟩
                        show qr_W (qe L xs vb) (d + 5) qx_e254 _ (82, _, [.int (qz v388797)], qw σ388699 α388700 κ ρ, 0, 0)
                        refine qr_if_ne 103 85 rfl rfl rfl (by omega) (fun h388798 => ?_) (fun h388798 => ?_)
                        · skip
                          refine qr_iconst 104 rfl rfl ?_
                          exact hJ388780 _ 0 σ388699 α388700 g388690 g388691 g388692 g388693 g388694 g388696 g388697 (by omega) hI388701 hF388702 ((hk388703).trans rfl) ((hk388704).trans rfl) hk388705 hk388706
                        · skip
                          refine qr_aload_n 86 rfl g388690 rfl ?_
                          refine qr_iload 88 rfl g388696 rfl ?_
                          refine qr_iload 90 rfl g388697 rfl ?_
                          refine qr_iload_n 91 rfl g388692 rfl ?_
                          refine qr_callN 94 rfl rfl rfl (sf_195_86 (d := d + 0) hI388701 (by omega) (by omega) (by omega)) ?_
                          rintro _ _ ⟨σ388800, α388801, rfl, hI388802, hG388803, v388799, rfl, hv388799⟩
                          have hF388804 : qFr [(86, 11), (86, 15), (86, 23)] [94, 95, 96, 119] σ α σ388800 α388801 := qFr_t hF388702 hG388803 (by decide) (by decide)
                          show qr_W (qe L xs vb) (d + 5) qx_e254 _ (94, _, [.int (qz v388799)], qw σ388800 α388801 κ ρ, 0, 0)
                          refine qr_bipush 96 rfl (by decide) rfl ?_
                          refine qr_icmp_eq 103 99 rfl rfl rfl (by omega) (by omega) (fun h388805 => ?_) (fun h388805 => ?_)
                          · skip
                            refine qr_iconst 104 rfl rfl ?_
                            exact hJ388780 _ 0 σ388800 α388801 g388690 g388691 g388692 g388693 g388694 g388696 g388697 (by omega) hI388802 hF388804 ((hG388803.1 86 6 (by decide)).trans ((hk388703).trans rfl)) ((hG388803.1 86 11 (by decide)).trans ((hk388704).trans rfl)) ((hG388803.2 94 (by decide)).trans hk388705) ((hG388803.2 95 (by decide)).trans hk388706)
                          · skip
                            refine qr_iconst 100 rfl rfl ?_
                            refine qr_goto 104 rfl rfl ?_
                            exact hJ388780 _ 1 σ388800 α388801 g388690 g388691 g388692 g388693 g388694 g388696 g388697 (by omega) hI388802 hF388804 ((hG388803.1 86 6 (by decide)).trans ((hk388703).trans rfl)) ((hG388803.1 86 11 (by decide)).trans ((hk388704).trans rfl)) ((hG388803.2 94 (by decide)).trans hk388705) ((hG388803.2 95 (by decide)).trans hk388706)
                exact hL388709 ((31 - 0 + 1 : Int)).toNat _ u353394 0 σ353397 α353398 (by omega) (qm_gk g353389 (by decide) (Or.inl (by decide))) (qm_gk g353390 (by decide) (Or.inl (by decide))) (qm_gk g353391 (by decide) (Or.inl (by decide))) (qm_gk g353392 (by decide) (Or.inl (by decide))) (qm_gk g353393 (by decide) (Or.inl (by decide))) (qm_gk g353395 (by decide) (Or.inr rfl)) (qm_ge _ _ _) (by omega) (by omega) hI353399 hF353400 ((hk353401).trans rfl) ((hk353402).trans rfl) hk353403 hk353404
          exact hL353407 ((32 - 0 + 1 : Int)).toNat _ 0 0 σ α (by omega) rfl rfl rfl rfl rfl rfl (by omega) (by omega) hI hF0 (rfl) (rfl) rfl rfl
        · skip
          refine qr_iconst 41 rfl rfl ?_
          refine qr_retI rfl rfl (by decide) (by decide) ?_
          exact ⟨_, _, rfl, hI, hF0, (by have hw : σ 86 11 = (σ 86 11) := rfl; omega), (-1), rfl, by omega, (fun j hj => ⟨rfl, rfl⟩)⟩
theorem qR2_0 {s g : Nat → Nat → Int} (hok : qo_ok s g) : qR2 (qJ_s s) (qJ_r g) := by
  refine ⟨rfl, fun j hj => absurd (show (j : Int) < 0 from hj) (by omega), fun x y hx hy => ?_⟩
  have e : qTb (qJ_r g 24) x y = g 24 (x * 32 + y).toNat := rfl
  have h := hok.2.2.1 24 (Or.inl rfl) (x * 32 + y : Int).toNat (by omega)
  rw [e, h]
  by_cases c : x = y
  · rw [if_pos (by omega)]
    exact ⟨by decide, fun _ => c, fun n _ => by omega⟩
  · rw [if_neg (by omega)]
    refine ⟨by decide, fun hl => absurd hl (by decide), fun n hw => absurd (qWk_iso (fun q ha => ?_) hw) c⟩
    obtain ⟨k, h1, h2⟩ := ha
    exact absurd (show (k : Int) < 0 from h1) (by omega)
