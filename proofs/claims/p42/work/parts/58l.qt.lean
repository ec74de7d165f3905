theorem qtx_c_2 (T : Nat → Int) (n a : Int) : qtx_c T n a = -1 ∨ a < n := by
  rcases qtx_c_c T n a with h | h | h
  · exact Or.inl h.2
  · exact Or.inr h.1.2
  · exact Or.inl h.2
def qtT (a b : Nat → Int) (s : Int) : Nat → Int := if s < 0 then a else fun j => b (s.toNat + j)
theorem qap_mul {c u w v : Int} (hc : c = 42) (he : qz v = qz (u * w)) (hv : -2147483648 ≤ v ∧ v ≤ 2147483647) : v = qtx_ap c u w := by
  rw [hc, qtx_can he hv]
  rfl
theorem qap_add {c u w v : Int} (hc : c = 43) (he : qz v = qz (u + w)) (hv : -2147483648 ≤ v ∧ v ≤ 2147483647) : v = qtx_ap c u w := by
  rw [hc, qtx_can he hv]
  rfl
theorem qap_sub {c u w v : Int} (hc : c = 45) (he : qz v = qz (u - w)) (hv : -2147483648 ≤ v ∧ v ≤ 2147483647) : v = qtx_ap c u w := by
  rw [hc, qtx_can he hv]
  rfl
theorem qap_div {c u w v : Int} (hc : c = 47) (hw : ¬ w = 0) (he : qz v = qz (qz_tdiv u w)) (hv : -2147483648 ≤ v ∧ v ≤ 2147483647) : v = qtx_ap c u w := by
  have e : v = qz_tdiv u w := (qtx_can he hv).trans (qz_ti (qz_rng _))
  rw [hc, e]
  exact (if_neg hw).symm
theorem qap_rem {c u w v : Int} (hc : c = 37) (hw : ¬ w = 0) (he : qz v = qz (qz_trem u w)) (hv : -2147483648 ≤ v ∧ v ≤ 2147483647) : v = qtx_ap c u w := by
  have e : v = qz_trem u w := (qtx_can he hv).trans (qz_ti (qz_rng _))
  rw [hc, e]
  exact (if_neg hw).symm
theorem qap_z {c u w : Int} (hc : c = 47 ∨ c = 37) (hw : w = 0) : 0 = qtx_ap c u w := by
  rcases hc with rfl | rfl <;> exact (if_pos hw).symm
theorem qap_or {c u w v : Int} (hc : c = 124) (h : (v = 0 ∧ u = 0 ∧ w = 0) ∨ (v = 1 ∧ ¬ (u = 0 ∧ w = 0))) : v = qtx_ap c u w := by
  rw [hc]
  rcases h with ⟨rfl, h2⟩ | ⟨rfl, h2⟩
  · exact (if_pos h2).symm
  · exact (if_neg h2).symm
theorem qap_and {c u w v : Int} (hc : c = 38) (h : (v = 0 ∧ (u = 0 ∨ w = 0)) ∨ (v = 1 ∧ ¬ (u = 0 ∨ w = 0))) : v = qtx_ap c u w := by
  rw [hc]
  rcases h with ⟨rfl, h2⟩ | ⟨rfl, h2⟩
  · exact (if_pos h2).symm
  · exact (if_neg h2).symm
theorem qap_cmp {c u w v : Int} (h : (c = 60 ∧ ((v = 1 ∧ u < w) ∨ (v = 0 ∧ ¬ u < w))) ∨ (c = 61 ∧ ((v = 1 ∧ u = w) ∨ (v = 0 ∧ ¬ u = w))) ∨ (c = 62 ∧ ((v = 1 ∧ w < u) ∨ (v = 0 ∧ ¬ w < u)))) : v = qtx_ap c u w := by
  rcases h with ⟨rfl, h⟩ | ⟨rfl, h⟩ | ⟨rfl, h⟩ <;> rcases h with ⟨rfl, h2⟩ | ⟨rfl, h2⟩
  · exact (if_pos h2).symm
  · exact (if_neg h2).symm
  · exact (if_pos h2).symm
  · exact (if_neg h2).symm
  · exact (if_pos h2).symm
  · exact (if_neg h2).symm
theorem qap_neg {w v : Int} (he : qz v = qz (-w)) (hv : -2147483648 ≤ v ∧ v ≤ 2147483647) : v = qtx_ng 45 w := qtx_can he hv
theorem qap_not {w v : Int} (h : (w = 0 ∧ v = 1) ∨ (¬ w = 0 ∧ v = 0)) : v = qtx_ng 33 w := by
  rcases h with ⟨h1, rfl⟩ | ⟨h1, rfl⟩
  · exact (if_pos h1).symm
  · exact (if_neg h1).symm
theorem qnm_pos {c m : Int} (h : m = qtx_nm c) (hm : 0 ≤ m) : 99 ≤ c ∧ m ≤ 8 := by
  have := qtx_nm_c c
  omega
theorem qnm_neg {c c0 m : Int} (h : m = qtx_nm c) (hm : m < 0) (hc : c = c0 ∨ (c = 0 ∧ c0 = -1)) : qtx_nm c0 < 0 := by
  rcases hc with hc | ⟨_, hc⟩
  · rw [← hc, ← h]; exact hm
  · rw [hc]; decide
theorem qtx_num_e {T : Nat → Int} {n : Int} {k : Nat} {u a : Int} (h : k = 0 ∨ ¬ (48 ≤ qtx_c T n a ∧ qtx_c T n a ≤ 57)) : qtx_num T n k u a = (u, a) := by
  rcases h with rfl | h
  · rfl
  · exact qtx_num_st h
theorem qtx_num_g {T : Nat → Int} {n : Int} {k k2 : Nat} {u a u2 a2 : Int} (hk : k = k2 + 1) (h : 48 ≤ qtx_c T n a ∧ qtx_c T n a ≤ 57) (hu : u2 = 10 * u + qtx_c T n a - 48) (ha : a2 = a + 1) : qtx_num T n k u a = qtx_num T n k2 u2 a2 := by
  rw [hk, qtx_num_go h, hu, ha]

set_option maxHeartbeats 4000000 in
set_option maxRecDepth 20000 in
/-- OneRoofModel.byteAt -/
theorem sf_220_86x {L : Nat} {xs : Nat → Int} {vb : Bool} {d : Nat} {σ α : Nat → Nat → Int} {κ : Nat → Option Nat} {ρ : Nat}  (hI : qI σ α κ ρ)  : qm_T (qe L xs vb) (d + 1) 220 [.ref 86] (qw σ α κ ρ) (fun r w' => w' = qw σ α κ ρ ∧ ∃ v : Int, r = some (.int (qz v)) ∧ ((-2147483648) ≤ v ∧ v ≤ 2147483647) ∧ ((σ 86 36 < σ 86 37 ∧ v = (qtx_c (qtT (α 106) (α 107) (σ 86 35)) (σ 86 37) (σ 86 36))) ∨ (σ 86 37 ≤ σ 86 36 ∧ v = 0 ∧ (qtx_c (qtT (α 106) (α 107) (σ 86 35)) (σ 86 37) (σ 86 36)) = -1))) := by
  refine qr_start (d := d + 0) qv_e220 (Nat.le_of_ble_eq_true rfl) ?_
  show qr_W (qe L xs vb) (d + 0) qx_e220 _ (0, [(0, .ref 86)], [], _, 0, 0)
  have hz86_36 : 0 ≤ σ 86 36 ∧ σ 86 36 ≤ 120 := hI.1 86 36
  have hz86_37 : 0 ≤ σ 86 37 ∧ σ 86 37 ≤ 120 := hI.1 86 37
  have hz86_35 : (-1) ≤ σ 86 35 ∧ σ 86 35 ≤ 120 := hI.1 86 35
  refine qr_aload_n 1 rfl rfl rfl ?_
  refine qr_get 4 rfl rfl rfl (by decide) rfl ?_
  refine qr_aload_n 5 rfl rfl rfl ?_
  refine qr_get 8 rfl rfl rfl (by decide) rfl ?_
  refine qr_icmp_ge 47 11 rfl rfl rfl (by omega) (by omega) (fun h1 => ?_) (fun h1 => ?_)
  · skip
    refine qr_iconst 48 rfl rfl ?_
    refine qr_retI rfl rfl (by decide) (by decide) ?_
    exact ⟨rfl, 0, rfl, by omega, (by have hc := qtx_c_c (qtT (α 106) (α 107) (σ 86 35)) (σ 86 37) (σ 86 36); omega)⟩
  · skip
    refine qr_aload_n 12 rfl rfl rfl ?_
    refine qr_get 15 rfl rfl rfl (by decide) rfl ?_
    refine qr_if_ge 30 18 rfl rfl rfl (by omega) (fun h2 => ?_) (fun h2 => ?_)
    · skip
      refine qr_aload_n 31 rfl rfl rfl ?_
      refine qr_get 34 rfl rfl rfl (by decide) rfl ?_
      refine qr_aload_n 35 rfl rfl rfl ?_
      refine qr_get 38 rfl rfl rfl (by decide) rfl ?_
      refine qr_aload_n 39 rfl rfl rfl ?_
      refine qr_get 42 rfl rfl rfl (by decide) rfl ?_
      refine qr_iadd 43 rfl rfl ?_
      refine qr_iaload 44 rfl rfl (by omega) (by decide) rfl ?_
      refine qr_topI (fun v3 hv3 => ?_)
      have hs4 : (-2147483648) ≤ v3 ∧ v3 ≤ 2147483647 := by rw [hv3]; exact hI.2.1 107 _ (show _ < 240 by omega)
      refine qr_goto 48 rfl rfl ?_
      refine qr_retI rfl rfl (by decide) (by decide) ?_
      exact ⟨rfl, v3, rfl, by omega, (by have hc := qtx_c_c (qtT (α 106) (α 107) (σ 86 35)) (σ 86 37) (σ 86 36); have ht : (qtT (α 106) (α 107) (σ 86 35)) (σ 86 36 : Int).toNat = v3 := (by rw [hv3]; unfold qtT; rw [if_neg (by omega)]; congr 1; omega); omega)⟩
    · skip
      refine qr_aload_n 19 rfl rfl rfl ?_
      refine qr_get 22 rfl rfl rfl (by decide) rfl ?_
      refine qr_aload_n 23 rfl rfl rfl ?_
      refine qr_get 26 rfl rfl rfl (by decide) rfl ?_
      refine qr_iaload 27 rfl rfl (by omega) (by decide) rfl ?_
      refine qr_topI (fun v5 hv5 => ?_)
      have hs6 : (-2147483648) ≤ v5 ∧ v5 ≤ 2147483647 := by rw [hv5]; exact hI.2.1 106 _ (show _ < 120 by omega)
      refine qr_goto 48 rfl rfl ?_
      refine qr_retI rfl rfl (by decide) (by decide) ?_
      exact ⟨rfl, v5, rfl, by omega, (by have hc := qtx_c_c (qtT (α 106) (α 107) (σ 86 35)) (σ 86 37) (σ 86 36); have ht : (qtT (α 106) (α 107) (σ 86 35)) (σ 86 36 : Int).toNat = v5 := (by rw [hv5]; unfold qtT; rw [if_pos (by omega)]); omega)⟩

set_option maxHeartbeats 4000000 in
set_option maxRecDepth 20000 in
/-- OneRoofModel.takes -/
theorem sf_222_86x {L : Nat} {xs : Nat → Int} {vb : Bool} {d : Nat} {σ α : Nat → Nat → Int} {κ : Nat → Option Nat} {ρ : Nat} {x1 : Int} (hI : qI σ α κ ρ) (r1 : (-2147483648) ≤ x1 ∧ x1 ≤ 2147483647) (p0 : 1 ≤ x1) : qm_T (qe L xs vb) (d + 2) 222 [.ref 86, .int (qz x1)] (qw σ α κ ρ) (fun r w' => ∃ σ', w' = qw σ' α κ ρ ∧ qI σ' α κ ρ ∧ qFr [(86, 36)] [] σ α σ' α ∧ ∃ v : Int, r = some (.int (qz v)) ∧ (0 ≤ v ∧ v ≤ 1) ∧ ((v = 1 ∧ σ 86 38 < 0 ∧ (qtx_c (qtT (α 106) (α 107) (σ 86 35)) (σ 86 37) (σ 86 36)) = x1 ∧ σ 86 36 < σ 86 37 ∧ σ' 86 36 = σ 86 36 + 1) ∨ (v = 0 ∧ ¬ (σ 86 38 < 0 ∧ (qtx_c (qtT (α 106) (α 107) (σ 86 35)) (σ 86 37) (σ 86 36)) = x1) ∧ σ' 86 36 = σ 86 36))) := by
  refine qr_start (d := d + 1) qv_e222 (Nat.le_of_ble_eq_true rfl) ?_
  show qr_W (qe L xs vb) (d + 1) qx_e222 _ (0, [(0, .ref 86), (1, .int (qz x1))], [], _, 0, 0)
  have hF0 := qFr_rf [(86, 36)] [] σ α
  have hz86_38 : (-1) ≤ σ 86 38 ∧ σ 86 38 ≤ 120 := hI.1 86 38
  have hz86_35 : (-1) ≤ σ 86 35 ∧ σ 86 35 ≤ 120 := hI.1 86 35
  have hz86_37 : 0 ≤ σ 86 37 ∧ σ 86 37 ≤ 120 := hI.1 86 37
  have hz86_36 : 0 ≤ σ 86 36 ∧ σ 86 36 ≤ 120 := hI.1 86 36
  refine qr_aload_n 1 rfl rfl rfl ?_
  refine qr_get 4 rfl rfl rfl (by decide) rfl ?_
  refine qr_if_ge 15 7 rfl rfl rfl (by omega) (fun h1 => ?_) (fun h1 => ?_)
  · skip
    refine qr_iconst 16 rfl rfl ?_
    refine qr_retZ rfl rfl (by omega) (by decide) (by decide) ?_
    have hw2 : σ 86 36 = (σ 86 36) := rfl
    exact ⟨_, rfl, hI, hF0, 0, rfl, by omega, by omega⟩
  · skip
    refine qr_aload_n 8 rfl rfl rfl ?_
    refine qr_callN 11 rfl rfl rfl (sf_220_86x (d := d + 0) hI ) ?_
    have hs5 : (-1) ≤ σ 86 35 ∧ σ 86 35 ≤ 120 := hI.1 86 35
    have hs6 : 0 ≤ σ 86 36 ∧ σ 86 36 ≤ 120 := hI.1 86 36
    have hs7 : 0 ≤ σ 86 37 ∧ σ 86 37 ≤ 120 := hI.1 86 37
    rintro _ _ ⟨rfl, v3, rfl, hv3, hp4⟩
    show qr_W (qe L xs vb) (d + 1) qx_e222 _ (11, _, [.int (qz v3)], qw σ α κ ρ, 0, 0)
    refine qr_iload_n 12 rfl rfl rfl ?_
    refine qr_icmp_eq 17 15 rfl rfl rfl (by omega) (by omega) (fun h8 => ?_) (fun h8 => ?_)
    · skip
      refine qr_aload_n 18 rfl rfl rfl ?_
      refine qr_dup 19 rfl rfl rfl ?_
      refine qr_get 22 rfl rfl rfl (by decide) rfl ?_
      refine qr_iconst 23 rfl rfl ?_
      refine qr_iadd 24 rfl rfl ?_
      refine qr_put 27 rfl (by decide) rfl (Nat.le_of_ble_eq_true rfl) (Nat.le_of_ble_eq_true rfl) (Or.inl rfl) (qr_fitI rfl _) rfl ?_
      refine qy_wS (qw_s σ 86 36 ((σ 86 36) + 1)) rfl (fun σ9 e10 => ?_)
      have hI11 : qI σ9 α κ ρ := by rw [e10]; exact qI_s hI 86 36 rfl (show 0 ≤ ((σ 86 36) + 1) ∧ ((σ 86 36) + 1) ≤ 120 by omega)
      have hF12 : qFr [(86, 36)] [] σ α σ9 α := by rw [e10]; exact qFr_s hF0 86 36 _ (by decide)
      refine qr_iconst 28 rfl rfl ?_
      refine qr_retZ rfl rfl (by omega) (by decide) (by decide) ?_
      have hw13 : σ9 86 36 = ((σ 86 36) + 1) := (congrFun (congrFun e10 86) 36).trans rfl
      exact ⟨_, rfl, hI11, hF12, 1, rfl, by omega, by omega⟩
    · skip
      refine qr_iconst 16 rfl rfl ?_
      refine qr_retZ rfl rfl (by omega) (by decide) (by decide) ?_
      have hw14 : σ 86 36 = (σ 86 36) := rfl
      exact ⟨_, rfl, hI, hF0, 0, rfl, by omega, by omega⟩

set_option maxHeartbeats 4000000 in
set_option maxRecDepth 20000 in
/-- OneRoofModel.wrong -/
theorem sf_221_86x {L : Nat} {xs : Nat → Int} {vb : Bool} {d : Nat} {σ α : Nat → Nat → Int} {κ : Nat → Option Nat} {ρ : Nat}  (hI : qI σ α κ ρ)  : qm_T (qe L xs vb) (d + 1) 221 [.ref 86] (qw σ α κ ρ) (fun r w' => ∃ σ', w' = qw σ' α κ ρ ∧ qI σ' α κ ρ ∧ qFr [(86, 38)] [] σ α σ' α ∧ ∃ v : Int, r = some (.int (qz v)) ∧ (0 ≤ v ∧ v ≤ 0) ∧ ((σ 86 38 < 0 ∧ σ' 86 38 = σ 86 36) ∨ (0 ≤ σ 86 38 ∧ σ' 86 38 = σ 86 38))) := by
  refine qr_start (d := d + 0) qv_e221 (Nat.le_of_ble_eq_true rfl) ?_
  show qr_W (qe L xs vb) (d + 0) qx_e221 _ (0, [(0, .ref 86)], [], _, 0, 0)
  have hF0 := qFr_rf [(86, 38)] [] σ α
  have hz86_38 : (-1) ≤ σ 86 38 ∧ σ 86 38 ≤ 120 := hI.1 86 38
  have hz86_36 : 0 ≤ σ 86 36 ∧ σ 86 36 ≤ 120 := hI.1 86 36
  refine qr_aload_n 1 rfl rfl rfl ?_
  refine qr_aload_n 2 rfl rfl rfl ?_
  refine qr_get 5 rfl rfl rfl (by decide) rfl ?_
  refine qr_if_ge 15 8 rfl rfl rfl (by omega) (fun h1 => ?_) (fun h1 => ?_)
  · skip
    refine qr_aload_n 16 rfl rfl rfl ?_
    refine qr_get 19 rfl rfl rfl (by decide) rfl ?_
    refine qr_put 22 rfl (by decide) rfl (Nat.le_of_ble_eq_true rfl) (Nat.le_of_ble_eq_true rfl) (Or.inl rfl) (qr_fitI rfl _) rfl ?_
    refine qy_wS (qw_s σ 86 38 (σ 86 38)) rfl (fun σ2 e3 => ?_)
    have hI4 : qI σ2 α κ ρ := by rw [e3]; exact qI_s hI 86 38 rfl (show (-1) ≤ (σ 86 38) ∧ (σ 86 38) ≤ 120 by omega)
    have hF5 : qFr [(86, 38)] [] σ α σ2 α := by rw [e3]; exact qFr_s hF0 86 38 _ (by decide)
    refine qr_iconst 23 rfl rfl ?_
    refine qr_retI rfl rfl (by decide) (by decide) ?_
    have hw6 : σ2 86 38 = (σ 86 38) := (congrFun (congrFun e3 86) 38).trans rfl
    exact ⟨_, rfl, hI4, hF5, 0, rfl, by omega, by omega⟩
  · skip
    refine qr_aload_n 9 rfl rfl rfl ?_
    refine qr_get 12 rfl rfl rfl (by decide) rfl ?_
    refine qr_goto 19 rfl rfl ?_
    refine qr_put 22 rfl (by decide) rfl (Nat.le_of_ble_eq_true rfl) (Nat.le_of_ble_eq_true rfl) (Or.inl rfl) (qr_fitI rfl _) rfl ?_
    refine qy_wS (qw_s σ 86 38 (σ 86 36)) rfl (fun σ7 e8 => ?_)
    have hI9 : qI σ7 α κ ρ := by rw [e8]; exact qI_s hI 86 38 rfl (show (-1) ≤ (σ 86 36) ∧ (σ 86 36) ≤ 120 by omega)
    have hF10 : qFr [(86, 38)] [] σ α σ7 α := by rw [e8]; exact qFr_s hF0 86 38 _ (by decide)
    refine qr_iconst 23 rfl rfl ?_
    refine qr_retI rfl rfl (by decide) (by decide) ?_
    have hw11 : σ7 86 38 = (σ 86 36) := (congrFun (congrFun e8 86) 38).trans rfl
    exact ⟨_, rfl, hI9, hF10, 0, rfl, by omega, by omega⟩

set_option maxHeartbeats 4000000 in
set_option maxRecDepth 20000 in
/-- OneRoofModel.nameOf -/
theorem sf_223x {L : Nat} {xs : Nat → Int} {vb : Bool} {d : Nat} {σ α : Nat → Nat → Int} {κ : Nat → Option Nat} {ρ : Nat} {x0 : Int} (hI : qI σ α κ ρ) (r0 : (-2147483648) ≤ x0 ∧ x0 ≤ 2147483647) : qm_T (qe L xs vb) (d + 1) 223 [.int (qz x0)] (qw σ α κ ρ) (fun r w' => w' = qw σ α κ ρ ∧ ∃ v : Int, r = some (.int (qz v)) ∧ ((-1) ≤ v ∧ v ≤ 8) ∧ v = qtx_nm x0) := by
  refine qr_start (d := d + 0) qv_e223 (Nat.le_of_ble_eq_true rfl) ?_
  show qr_W (qe L xs vb) (d + 0) qx_e223 _ (0, [(0, .int (qz x0))], [], _, 0, 0)
  have hq := qtx_nm_c x0
  refine qr_iload_n 1 rfl rfl rfl ?_
  have h1 : x0 = 99 ∨ x0 = 100 ∨ x0 = 101 ∨ x0 = 102 ∨ x0 = 103 ∨ x0 = 104 ∨ x0 = 105 ∨ x0 = 106 ∨ x0 = 107 ∨ x0 = 108 ∨ x0 = 109 ∨ x0 = 110 ∨ x0 = 111 ∨ x0 = 112 ∨ x0 = 113 ∨ x0 = 114 ∨ x0 = 115 ∨ x0 = 116 ∨ x0 = 117 ∨ x0 = 118 ∨ x0 = 119 ∨ (x0 < 99 ∨ 119 < x0) := by omega
  rcases h1 with h1 | h1 | h1 | h1 | h1 | h1 | h1 | h1 | h1 | h1 | h1 | h1 | h1 | h1 | h1 | h1 | h1 | h1 | h1 | h1 | h1 | h1
  · skip
    refine qr_tabIn 104 rfl (by omega) (by omega) (by rw [h1]; rfl) rfl ?_
    refine qr_iconst 105 rfl rfl ?_
    refine qr_retI rfl rfl (by decide) (by decide) ?_
    exact ⟨rfl, 2, rfl, by omega, by omega⟩
  · skip
    refine qr_tabIn 118 rfl (by omega) (by omega) (by rw [h1]; rfl) rfl ?_
    refine qr_bipush 120 rfl (by decide) rfl ?_
    refine qr_retI rfl rfl (by decide) (by decide) ?_
    exact ⟨rfl, 8, rfl, by omega, by omega⟩
  · skip
    refine qr_tabIn 121 rfl (by omega) (by omega) (by rw [h1]; rfl) rfl ?_
    refine qr_iconst 122 rfl rfl ?_
    refine qr_retI rfl rfl (by decide) (by decide) ?_
    exact ⟨rfl, (-1), rfl, by omega, by omega⟩
  · skip
    refine qr_tabIn 100 rfl (by omega) (by omega) (by rw [h1]; rfl) rfl ?_
    refine qr_iconst 101 rfl rfl ?_
    refine qr_retI rfl rfl (by decide) (by decide) ?_
    exact ⟨rfl, 0, rfl, by omega, by omega⟩
  · skip
    refine qr_tabIn 121 rfl (by omega) (by omega) (by rw [h1]; rfl) rfl ?_
    refine qr_iconst 122 rfl rfl ?_
    refine qr_retI rfl rfl (by decide) (by decide) ?_
    exact ⟨rfl, (-1), rfl, by omega, by omega⟩
  · skip
    refine qr_tabIn 121 rfl (by omega) (by omega) (by rw [h1]; rfl) rfl ?_
    refine qr_iconst 122 rfl rfl ?_
    refine qr_retI rfl rfl (by decide) (by decide) ?_
    exact ⟨rfl, (-1), rfl, by omega, by omega⟩
  · skip
    refine qr_tabIn 121 rfl (by omega) (by omega) (by rw [h1]; rfl) rfl ?_
    refine qr_iconst 122 rfl rfl ?_
    refine qr_retI rfl rfl (by decide) (by decide) ?_
    exact ⟨rfl, (-1), rfl, by omega, by omega⟩
  · skip
    refine qr_tabIn 121 rfl (by omega) (by omega) (by rw [h1]; rfl) rfl ?_
    refine qr_iconst 122 rfl rfl ?_
    refine qr_retI rfl rfl (by decide) (by decide) ?_
    exact ⟨rfl, (-1), rfl, by omega, by omega⟩
  · skip
    refine qr_tabIn 112 rfl (by omega) (by omega) (by rw [h1]; rfl) rfl ?_
    refine qr_bipush 114 rfl (by decide) rfl ?_
    refine qr_retI rfl rfl (by decide) (by decide) ?_
    exact ⟨rfl, 6, rfl, by omega, by omega⟩
  · skip
    refine qr_tabIn 110 rfl (by omega) (by omega) (by rw [h1]; rfl) rfl ?_
    refine qr_iconst 111 rfl rfl ?_
    refine qr_retI rfl rfl (by decide) (by decide) ?_
    exact ⟨rfl, 5, rfl, by omega, by omega⟩
  · skip
    refine qr_tabIn 121 rfl (by omega) (by omega) (by rw [h1]; rfl) rfl ?_
    refine qr_iconst 122 rfl rfl ?_
    refine qr_retI rfl rfl (by decide) (by decide) ?_
    exact ⟨rfl, (-1), rfl, by omega, by omega⟩
  · skip
    refine qr_tabIn 102 rfl (by omega) (by omega) (by rw [h1]; rfl) rfl ?_
    refine qr_iconst 103 rfl rfl ?_
    refine qr_retI rfl rfl (by decide) (by decide) ?_
    exact ⟨rfl, 1, rfl, by omega, by omega⟩
  · skip
    refine qr_tabIn 115 rfl (by omega) (by omega) (by rw [h1]; rfl) rfl ?_
    refine qr_bipush 117 rfl (by decide) rfl ?_
    refine qr_retI rfl rfl (by decide) (by decide) ?_
    exact ⟨rfl, 7, rfl, by omega, by omega⟩
  · skip
    refine qr_tabIn 121 rfl (by omega) (by omega) (by rw [h1]; rfl) rfl ?_
    refine qr_iconst 122 rfl rfl ?_
    refine qr_retI rfl rfl (by decide) (by decide) ?_
    exact ⟨rfl, (-1), rfl, by omega, by omega⟩
  · skip
    refine qr_tabIn 121 rfl (by omega) (by omega) (by rw [h1]; rfl) rfl ?_
    refine qr_iconst 122 rfl rfl ?_
    refine qr_retI rfl rfl (by decide) (by decide) ?_
    exact ⟨rfl, (-1), rfl, by omega, by omega⟩
  · skip
    refine qr_tabIn 121 rfl (by omega) (by omega) (by rw [h1]; rfl) rfl ?_
    refine qr_iconst 122 rfl rfl ?_
    refine qr_retI rfl rfl (by decide) (by decide) ?_
    exact ⟨rfl, (-1), rfl, by omega, by omega⟩
  · skip
    refine qr_tabIn 121 rfl (by omega) (by omega) (by rw [h1]; rfl) rfl ?_
    refine qr_iconst 122 rfl rfl ?_
    refine qr_retI rfl rfl (by decide) (by decide) ?_
    exact ⟨rfl, (-1), rfl, by omega, by omega⟩
  · skip
    refine qr_tabIn 121 rfl (by omega) (by omega) (by rw [h1]; rfl) rfl ?_
    refine qr_iconst 122 rfl rfl ?_
    refine qr_retI rfl rfl (by decide) (by decide) ?_
    exact ⟨rfl, (-1), rfl, by omega, by omega⟩
  · skip
    refine qr_tabIn 121 rfl (by omega) (by omega) (by rw [h1]; rfl) rfl ?_
    refine qr_iconst 122 rfl rfl ?_
    refine qr_retI rfl rfl (by decide) (by decide) ?_
    exact ⟨rfl, (-1), rfl, by omega, by omega⟩
  · skip
    refine qr_tabIn 108 rfl (by omega) (by omega) (by rw [h1]; rfl) rfl ?_
    refine qr_iconst 109 rfl rfl ?_
    refine qr_retI rfl rfl (by decide) (by decide) ?_
    exact ⟨rfl, 4, rfl, by omega, by omega⟩
  · skip
    refine qr_tabIn 106 rfl (by omega) (by omega) (by rw [h1]; rfl) rfl ?_
    refine qr_iconst 107 rfl rfl ?_
    refine qr_retI rfl rfl (by decide) (by decide) ?_
    exact ⟨rfl, 3, rfl, by omega, by omega⟩
  · skip
    refine qr_tabOut 121 rfl (by omega) (by omega) rfl ?_
    refine qr_iconst 122 rfl rfl ?_
    refine qr_retI rfl rfl (by decide) (by decide) ?_
    exact ⟨rfl, (-1), rfl, by omega, by omega⟩

set_option maxHeartbeats 4000000 in
set_option maxRecDepth 20000 in
/-- OneRoofModel.product -/
theorem sf_218_86x {L : Nat} {xs : Nat → Int} {vb : Bool} {d : Nat} {σ α : Nat → Nat → Int} {κ : Nat → Option Nat} {ρ : Nat} {ro : Nat} (ihC : ∀ {σ α : Nat → Nat → Int}, qI σ α κ ρ → σ 86 36 ≤ σ 86 37 → σ 86 38 = -1 → σ 86 39 + (ro : Int) = 6 → qm_T (qe L xs vb) (d + 1) 219 [.ref 86] (qw σ α κ ρ) (fun r w' => ∃ σ', w' = qw σ' α κ ρ ∧ qI σ' α κ ρ ∧ qFr [(86, 36), (86, 38), (86, 39)] [] σ α σ' α ∧ ∃ v : Int, r = some (.int (qz v)) ∧ ((-2147483648) ≤ v ∧ v ≤ 2147483647) ∧ (σ 86 36 ≤ σ' 86 36 ∧ σ' 86 36 ≤ σ 86 37 ∧ σ 86 39 ≤ σ' 86 39 ∧ ((σ' 86 38 = -1 ∧ σ' 86 39 = σ 86 39 ∧ σ 86 36 < σ' 86 36) ∨ σ' 86 38 = σ' 86 36)) ∧ qRes ((qtx_lv (qtT (α 106) (α 107) (σ 86 35)) (σ 86 37) (fun b => qtx_on (qtT (α 106) (α 107) (σ 86 35)) (σ 86 37) (α 109) ro b) 0) (σ 86 36)) v (σ' 86 36) (σ' 86 38))) (hI : qI σ α κ ρ) (p0 : σ 86 36 ≤ σ 86 37) (p1 : σ 86 38 = -1) (p2 : σ 86 39 + (ro : Int) = 6) : qm_T (qe L xs vb) (d + 2) 218 [.ref 86] (qw σ α κ ρ) (fun r w' => ∃ σ', w' = qw σ' α κ ρ ∧ qI σ' α κ ρ ∧ qFr [(86, 36), (86, 38), (86, 39)] [] σ α σ' α ∧ ∃ v : Int, r = some (.int (qz v)) ∧ ((-2147483648) ≤ v ∧ v ≤ 2147483647) ∧ (σ 86 36 ≤ σ' 86 36 ∧ σ' 86 36 ≤ σ 86 37 ∧ σ 86 39 ≤ σ' 86 39 ∧ ((σ' 86 38 = -1 ∧ σ' 86 39 = σ 86 39 ∧ σ 86 36 < σ' 86 36) ∨ σ' 86 38 = σ' 86 36)) ∧ qRes ((qtx_lv (qtT (α 106) (α 107) (σ 86 35)) (σ 86 37) (fun b => qtx_on (qtT (α 106) (α 107) (σ 86 35)) (σ 86 37) (α 109) ro b) (0 + 1)) (σ 86 36)) v (σ' 86 36) (σ' 86 38)) := by
  refine qr_start (d := d + 1) qv_e218 (Nat.le_of_ble_eq_true rfl) ?_
  show qr_W (qe L xs vb) (d + 1) qx_e218 _ (0, [(0, .ref 86)], [], _, 0, 0)
  have hF0 := qFr_rf [(86, 36), (86, 38), (86, 39)] [] σ α
  have hz86_36 : 0 ≤ σ 86 36 ∧ σ 86 36 ≤ 120 := hI.1 86 36
  have hz86_37 : 0 ≤ σ 86 37 ∧ σ 86 37 ≤ 120 := hI.1 86 37
  have hz86_39 : 0 ≤ σ 86 39 ∧ σ 86 39 ≤ 6 := hI.1 86 39
  have hz86_38 : (-1) ≤ σ 86 38 ∧ σ 86 38 ≤ 120 := hI.1 86 38
  have hz86_35 : (-1) ≤ σ 86 35 ∧ σ 86 35 ≤ 120 := hI.1 86 35
  refine qr_aload_n 1 rfl rfl rfl ?_
  have hs1 : 0 ≤ σ 86 36 ∧ σ 86 36 ≤ 120 := hI.1 86 36
  have hs2 : 0 ≤ σ 86 37 ∧ σ 86 37 ≤ 120 := hI.1 86 37
  have hs3 : (-1) ≤ σ 86 38 ∧ σ 86 38 ≤ 120 := hI.1 86 38
  have hs4 : 0 ≤ σ 86 39 ∧ σ 86 39 ≤ 6 := hI.1 86 39
  refine qr_callN 4 rfl rfl rfl (ihC hI (by omega) (by omega) (by omega)) ?_
  have hs8 : 0 ≤ σ 86 36 ∧ σ 86 36 ≤ 120 := hI.1 86 36
  have hs9 : 0 ≤ σ 86 37 ∧ σ 86 37 ≤ 120 := hI.1 86 37
  have hs10 : 0 ≤ σ 86 39 ∧ σ 86 39 ≤ 6 := hI.1 86 39
  rintro _ _ ⟨σ11, rfl, hI12, hG13, v5, rfl, hv5, hp6, hx7⟩
  have hF14 : qFr [(86, 36), (86, 38), (86, 39)] [] σ α σ11 α := qFr_t hF0 hG13 (by decide) (by decide)
  have hs15 : 0 ≤ σ11 86 36 ∧ σ11 86 36 ≤ 120 := hI12.1 86 36
  have hs16 : (-1) ≤ σ11 86 38 ∧ σ11 86 38 ≤ 120 := hI12.1 86 38
  have hs17 : 0 ≤ σ11 86 39 ∧ σ11 86 39 ≤ 6 := hI12.1 86 39
  show qr_W (qe L xs vb) (d + 1) qx_e218 _ (4, _, [.int (qz v5)], qw σ11 α κ ρ, 0, 0)
  refine qr_istore_n _ 5 rfl (by decide) rfl rfl ?_
  refine qr_aload_n 6 rfl rfl rfl ?_
  refine qr_callN 9 rfl rfl rfl (sf_220_86x (d := d + 0) hI12 ) ?_
  have hs20 : (-1) ≤ σ11 86 35 ∧ σ11 86 35 ≤ 120 := hI12.1 86 35
  have hs21 : σ11 86 35 = (σ 86 35) := (hG13.1 86 35 (by decide)).trans rfl
  have hs22 : 0 ≤ σ11 86 36 ∧ σ11 86 36 ≤ 120 := hI12.1 86 36
  have hs23 : 0 ≤ σ11 86 37 ∧ σ11 86 37 ≤ 120 := hI12.1 86 37
  have hs24 : σ11 86 37 = (σ 86 37) := (hG13.1 86 37 (by decide)).trans rfl
  rintro _ _ ⟨rfl, v18, rfl, hv18, hp19⟩
  rw [hF14.1 86 35 (by decide), hF14.1 86 37 (by decide)] at hp19
  show qr_W (qe L xs vb) (d + 1) qx_e218 _ (9, _, [.int (qz v18)], qw σ11 α κ ρ, 0, 0)
  refine qr_istore_n _ 10 rfl (by decide) rfl rfl ?_
  have hL557 : ∀ (n : Nat) (ls : qm_L) (u543 u545 : Int) (σ546 : Nat → Nat → Int), ((120 - σ546 86 36).toNat : Int) < (n : Int) → qm_get ls 0 = some (.ref 86) → qm_get ls 1 = some (.int (qz u543)) → qm_get ls 2 = some (.int (qz u545)) → ((-2147483648) ≤ u543 ∧ u543 ≤ 2147483647) → ((-2147483648) ≤ u545 ∧ u545 ≤ 2147483647) → qI σ546 α κ ρ → qFr [(86, 36), (86, 38), (86, 39)] [] σ α σ546 α → σ546 86 35 = (σ 86 35) → σ546 86 37 = (σ 86 37) → qLI (qtT (α 106) (α 107) (σ 86 35)) (σ 86 37) (qtx_lv (qtT (α 106) (α 107) (σ 86 35)) (σ 86 37) (fun b => qtx_on (qtT (α 106) (α 107) (σ 86 35)) (σ 86 37) (α 109) ro b) 0) 4 ((qtx_lv (qtT (α 106) (α 107) (σ 86 35)) (σ 86 37) (fun b => qtx_on (qtT (α 106) (α 107) (σ 86 35)) (σ 86 37) (α 109) ro b) (0 + 1)) (σ 86 36)) u543 (σ546 86 36) (σ546 86 38) → (σ 86 36 ≤ σ546 86 36 ∧ σ546 86 36 ≤ σ 86 37 ∧ σ 86 39 ≤ σ546 86 39 ∧ ((σ546 86 38 = -1 ∧ σ546 86 39 = σ 86 39 ∧ σ 86 36 < σ546 86 36) ∨ σ546 86 38 = σ546 86 36)) → (u545 = (qtx_c (qtT (α 106) (α 107) (σ 86 35)) (σ 86 37) (σ546 86 36)) ∨ (u545 = 0 ∧ (qtx_c (qtT (α 106) (α 107) (σ 86 35)) (σ 86 37) (σ546 86 36)) = -1)) → qr_W (qe L xs vb) (d + 1) qx_e218 (fun r w' => ∃ σ', w' = qw σ' α κ ρ ∧ qI σ' α κ ρ ∧ qFr [(86, 36), (86, 38), (86, 39)] [] σ α σ' α ∧ ∃ v : Int, r = some (.int (qz v)) ∧ ((-2147483648) ≤ v ∧ v ≤ 2147483647) ∧ (σ 86 36 ≤ σ' 86 36 ∧ σ' 86 36 ≤ σ 86 37 ∧ σ 86 39 ≤ σ' 86 39 ∧ ((σ' 86 38 = -1 ∧ σ' 86 39 = σ 86 39 ∧ σ 86 36 < σ' 86 36) ∨ σ' 86 38 = σ' 86 36)) ∧ qRes ((qtx_lv (qtT (α 106) (α 107) (σ 86 35)) (σ 86 37) (fun b => qtx_on (qtT (α 106) (α 107) (σ 86 35)) (σ 86 37) (α 109) ro b) (0 + 1)) (σ 86 36)) v (σ' 86 36) (σ' 86 38)) (10, ls, [], qw σ546 α κ ρ, 0, 0) := by
    intro n
    induction n with
    | zero => intro ls u543 u545 σ546 hm g541 g542 g544 hf552 hf553 hI548 hF549 hk550 hk551 hx554 hx555 hx556; exact False.elim (by omega)
    | succ n ih558 =>
      intro ls u543 u545 σ546 hm g541 g542 g544 hf552 hf553 hI548 hF549 hk550 hk551 hx554 hx555 hx556
      have hs559 : 0 ≤ σ546 86 36 ∧ σ546 86 36 ≤ 120 := hI548.1 86 36
      have hs560 : (-1) ≤ σ546 86 38 ∧ σ546 86 38 ≤ 120 := hI548.1 86 38
      have hs561 : 0 ≤ σ546 86 39 ∧ σ546 86 39 ≤ 6 := hI548.1 86 39
      have hcc562 := qtx_c_2 (qtT (α 106) (α 107) (σ 86 35)) (σ 86 37) (σ546 86 36)
      refine qr_aload_n 11 rfl g541 rfl ?_
      refine qr_get 14 rfl rfl rfl (by decide) rfl ?_
      refine qr_if_ge 94 17 rfl rfl rfl (by omega) (fun h563 => ?_) (fun h563 => ?_)
      · skip
        refine qr_iload_n 95 rfl g542 rfl ?_
        refine qr_retI rfl rfl (by decide) (by decide) ?_
        have hw564 : σ546 86 36 = (σ546 86 36) := rfl
        have hw565 : σ546 86 38 = (σ546 86 38) := rfl
        have hw566 : σ546 86 39 = (σ546 86 39) := rfl
        exact ⟨_, rfl, hI548, hF549, u543, rfl, by omega, by omega, (by exact (qLI_e hx554 (fun _ => by have hlo := qtx_lo_c (qtx_c (qtT (α 106) (α 107) (σ 86 35)) (σ 86 37) (σ546 86 36)); omega)))⟩
      · skip
        refine qr_iload_n 18 rfl g544 rfl ?_
        refine qr_bipush 20 rfl (by decide) rfl ?_
        refine qr_icmp_eq 35 23 rfl rfl rfl (by omega) (by omega) (fun h567 => ?_) (fun h567 => ?_)
        · skip
          refine qr_aload_n 36 rfl g541 rfl ?_
          refine qr_dup 37 rfl rfl rfl ?_
          refine qr_get 40 rfl rfl rfl (by decide) rfl ?_
          refine qr_iconst 41 rfl rfl ?_
          refine qr_iadd 42 rfl rfl ?_
          refine qr_put 45 rfl (by decide) rfl (Nat.le_of_ble_eq_true rfl) (Nat.le_of_ble_eq_true rfl) (Or.inl rfl) (qr_fitI rfl _) rfl ?_
          refine qy_wS (qw_s σ546 86 36 ((σ546 86 36) + 1)) rfl (fun σ568 e569 => ?_)
          have hI570 : qI σ568 α κ ρ := by rw [e569]; exact qI_s hI548 86 36 rfl (show 0 ≤ ((σ546 86 36) + 1) ∧ ((σ546 86 36) + 1) ≤ 120 by omega)
          have hF571 : qFr [(86, 36), (86, 38), (86, 39)] [] σ α σ568 α := by rw [e569]; exact qFr_s hF549 86 36 _ (by decide)
          refine qr_aload_n 46 rfl g541 rfl ?_
          have hs572 : 0 ≤ σ568 86 36 ∧ σ568 86 36 ≤ 120 := hI570.1 86 36
          have hs573 : σ568 86 36 = ((σ546 86 36) + 1) := (congrFun (congrFun e569 86) 36).trans rfl
          have hs574 : 0 ≤ σ568 86 37 ∧ σ568 86 37 ≤ 120 := hI570.1 86 37
          have hs575 : σ568 86 37 = (σ 86 37) := (congrFun (congrFun e569 86) 37).trans ((hk551).trans rfl)
          have hs576 : (-1) ≤ σ568 86 38 ∧ σ568 86 38 ≤ 120 := hI570.1 86 38
          have hs577 : σ568 86 38 = (σ546 86 38) := (congrFun (congrFun e569 86) 38).trans rfl
          have hs578 : 0 ≤ σ568 86 39 ∧ σ568 86 39 ≤ 6 := hI570.1 86 39
          have hs579 : σ568 86 39 = (σ546 86 39) := (congrFun (congrFun e569 86) 39).trans rfl
          refine qr_callN 49 rfl rfl rfl (ihC hI570 (by omega) (by omega) (by omega)) ?_
          have hs583 : 0 ≤ σ568 86 36 ∧ σ568 86 36 ≤ 120 := hI570.1 86 36
          have hs584 : σ568 86 36 = ((σ546 86 36) + 1) := (congrFun (congrFun e569 86) 36).trans rfl
          have hs585 : 0 ≤ σ568 86 37 ∧ σ568 86 37 ≤ 120 := hI570.1 86 37
          have hs586 : σ568 86 37 = (σ 86 37) := (congrFun (congrFun e569 86) 37).trans ((hk551).trans rfl)
          have hs587 : 0 ≤ σ568 86 39 ∧ σ568 86 39 ≤ 6 := hI570.1 86 39
          have hs588 : σ568 86 39 = (σ546 86 39) := (congrFun (congrFun e569 86) 39).trans rfl
          rintro _ _ ⟨σ589, rfl, hI590, hG591, v580, rfl, hv580, hp581, hx582⟩
          have hF592 : qFr [(86, 36), (86, 38), (86, 39)] [] σ α σ589 α := qFr_t hF571 hG591 (by decide) (by decide)
          have hs593 : 0 ≤ σ589 86 36 ∧ σ589 86 36 ≤ 120 := hI590.1 86 36
          have hs594 : (-1) ≤ σ589 86 38 ∧ σ589 86 38 ≤ 120 := hI590.1 86 38
          have hs595 : 0 ≤ σ589 86 39 ∧ σ589 86 39 ≤ 6 := hI590.1 86 39
          rw [hF571.1 86 37 (by decide), (show σ568 86 36 = ((σ546 86 36) + 1) from (congrFun (congrFun e569 86) 36).trans rfl), (show σ568 86 39 = (σ546 86 39) from (congrFun (congrFun e569 86) 39).trans rfl)] at hp581
          rw [hF571.1 86 35 (by decide), hF571.1 86 37 (by decide), (show σ568 86 36 = ((σ546 86 36) + 1) from (congrFun (congrFun e569 86) 36).trans rfl)] at hx582
          show qr_W (qe L xs vb) (d + 1) qx_e218 _ (49, _, [.int (qz v580)], qw σ589 α κ ρ, 0, 0)
          refine qr_istore_n _ 50 rfl (by decide) rfl rfl ?_
          refine qr_iload_n 51 rfl (qm_gk g544 (by decide) (Or.inr rfl)) rfl ?_
          refine qr_bipush 53 rfl (by decide) rfl ?_
          refine qr_icmp_ne 62 56 rfl rfl rfl (by omega) (by omega) (fun h => False.elim (by omega)) (fun h596 => ?_)
          refine qr_iload_n 57 rfl (qm_gk g542 (by decide) (Or.inl (by decide))) rfl ?_
          refine qr_iload_n 58 rfl (qm_ge _ _ _) rfl ?_
          refine qr_imul 59 rfl rfl ?_
          refine qy_canE (fun v597 hv597 hev597 => ?_)
          refine qr_goto 85 rfl rfl ?_
          refine qr_istore_n _ 86 rfl (by decide) rfl rfl ?_
          refine qr_aload_n 87 rfl (qm_gk (qm_gk g541 (by decide) (Or.inl (by decide))) (by decide) (Or.inr rfl)) rfl ?_
          refine qr_callN 90 rfl rfl rfl (sf_220_86x (d := d + 0) hI590 ) ?_
          have hs600 : (-1) ≤ σ589 86 35 ∧ σ589 86 35 ≤ 120 := hI590.1 86 35
          have hs601 : σ589 86 35 = (σ 86 35) := (hG591.1 86 35 (by decide)).trans ((congrFun (congrFun e569 86) 35).trans ((hk550).trans rfl))
          have hs602 : 0 ≤ σ589 86 36 ∧ σ589 86 36 ≤ 120 := hI590.1 86 36
          have hs603 : 0 ≤ σ589 86 37 ∧ σ589 86 37 ≤ 120 := hI590.1 86 37
          have hs604 : σ589 86 37 = (σ 86 37) := (hG591.1 86 37 (by decide)).trans ((congrFun (congrFun e569 86) 37).trans ((hk551).trans rfl))
          rintro _ _ ⟨rfl, v598, rfl, hv598, hp599⟩
          rw [hF592.1 86 35 (by decide), hF592.1 86 37 (by decide)] at hp599
          show qr_W (qe L xs vb) (d + 1) qx_e218 _ (90, _, [.int (qz v598)], qw σ589 α κ ρ, 0, 0)
          refine qr_istore_n _ 91 rfl (by decide) rfl rfl ?_
          refine qr_goto 10 rfl rfl ?_
          exact ih558 _ v597 v598 σ589 (by omega) (qm_gk (qm_gk (qm_gk g541 (by decide) (Or.inl (by decide))) (by decide) (Or.inr rfl)) (by decide) (Or.inl (by decide))) (qm_gk (qm_ge _ _ _) (by decide) (Or.inr rfl)) (qm_ge _ _ _) (by omega) (by omega) hI590 hF592 ((hG591.1 86 35 (by decide)).trans ((congrFun (congrFun e569 86) 35).trans ((hk550).trans rfl))) ((hG591.1 86 37 (by decide)).trans ((congrFun (congrFun e569 86) 37).trans ((hk551).trans rfl))) (by have hlo := qtx_lo_c (qtx_c (qtT (α 106) (α 107) (σ 86 35)) (σ 86 37) (σ546 86 36)); have hi : qLI (qtT (α 106) (α 107) (σ 86 35)) (σ 86 37) (qtx_lv (qtT (α 106) (α 107) (σ 86 35)) (σ 86 37) (fun b => qtx_on (qtT (α 106) (α 107) (σ 86 35)) (σ 86 37) (α 109) ro b) 0) 4 ((qtx_lv (qtT (α 106) (α 107) (σ 86 35)) (σ 86 37) (fun b => qtx_on (qtT (α 106) (α 107) (σ 86 35)) (σ 86 37) (α 109) ro b) (0 + 1)) (σ 86 36)) u543 (σ546 86 36) (-1) := (by have h9 := hx554; rwa [show σ546 86 38 = -1 by omega] at h9); exact qLI_s hi (by omega) (by decide) (by omega) hx582 (by omega) (fun _ => qap_mul (by omega) hev597 (by omega))) (by omega) (by omega)
        · skip
          refine qr_iload_n 24 rfl g544 rfl ?_
          refine qr_bipush 26 rfl (by decide) rfl ?_
          refine qr_icmp_eq 35 29 rfl rfl rfl (by omega) (by omega) (fun h605 => ?_) (fun h605 => ?_)
          · skip
            refine qr_aload_n 36 rfl g541 rfl ?_
            refine qr_dup 37 rfl rfl rfl ?_
            refine qr_get 40 rfl rfl rfl (by decide) rfl ?_
            refine qr_iconst 41 rfl rfl ?_
            refine qr_iadd 42 rfl rfl ?_
            refine qr_put 45 rfl (by decide) rfl (Nat.le_of_ble_eq_true rfl) (Nat.le_of_ble_eq_true rfl) (Or.inl rfl) (qr_fitI rfl _) rfl ?_
            refine qy_wS (qw_s σ546 86 36 ((σ546 86 36) + 1)) rfl (fun σ606 e607 => ?_)
            have hI608 : qI σ606 α κ ρ := by rw [e607]; exact qI_s hI548 86 36 rfl (show 0 ≤ ((σ546 86 36) + 1) ∧ ((σ546 86 36) + 1) ≤ 120 by omega)
            have hF609 : qFr [(86, 36), (86, 38), (86, 39)] [] σ α σ606 α := by rw [e607]; exact qFr_s hF549 86 36 _ (by decide)
            refine qr_aload_n 46 rfl g541 rfl ?_
            have hs610 : 0 ≤ σ606 86 36 ∧ σ606 86 36 ≤ 120 := hI608.1 86 36
            have hs611 : σ606 86 36 = ((σ546 86 36) + 1) := (congrFun (congrFun e607 86) 36).trans rfl
            have hs612 : 0 ≤ σ606 86 37 ∧ σ606 86 37 ≤ 120 := hI608.1 86 37
            have hs613 : σ606 86 37 = (σ 86 37) := (congrFun (congrFun e607 86) 37).trans ((hk551).trans rfl)
            have hs614 : (-1) ≤ σ606 86 38 ∧ σ606 86 38 ≤ 120 := hI608.1 86 38
            have hs615 : σ606 86 38 = (σ546 86 38) := (congrFun (congrFun e607 86) 38).trans rfl
            have hs616 : 0 ≤ σ606 86 39 ∧ σ606 86 39 ≤ 6 := hI608.1 86 39
            have hs617 : σ606 86 39 = (σ546 86 39) := (congrFun (congrFun e607 86) 39).trans rfl
            refine qr_callN 49 rfl rfl rfl (ihC hI608 (by omega) (by omega) (by omega)) ?_
            have hs621 : 0 ≤ σ606 86 36 ∧ σ606 86 36 ≤ 120 := hI608.1 86 36
            have hs622 : σ606 86 36 = ((σ546 86 36) + 1) := (congrFun (congrFun e607 86) 36).trans rfl
            have hs623 : 0 ≤ σ606 86 37 ∧ σ606 86 37 ≤ 120 := hI608.1 86 37
            have hs624 : σ606 86 37 = (σ 86 37) := (congrFun (congrFun e607 86) 37).trans ((hk551).trans rfl)
            have hs625 : 0 ≤ σ606 86 39 ∧ σ606 86 39 ≤ 6 := hI608.1 86 39
            have hs626 : σ606 86 39 = (σ546 86 39) := (congrFun (congrFun e607 86) 39).trans rfl
            rintro _ _ ⟨σ627, rfl, hI628, hG629, v618, rfl, hv618, hp619, hx620⟩
            have hF630 : qFr [(86, 36), (86, 38), (86, 39)] [] σ α σ627 α := qFr_t hF609 hG629 (by decide) (by decide)
            have hs631 : 0 ≤ σ627 86 36 ∧ σ627 86 36 ≤ 120 := hI628.1 86 36
            have hs632 : (-1) ≤ σ627 86 38 ∧ σ627 86 38 ≤ 120 := hI628.1 86 38
            have hs633 : 0 ≤ σ627 86 39 ∧ σ627 86 39 ≤ 6 := hI628.1 86 39
            rw [hF609.1 86 37 (by decide), (show σ606 86 36 = ((σ546 86 36) + 1) from (congrFun (congrFun e607 86) 36).trans rfl), (show σ606 86 39 = (σ546 86 39) from (congrFun (congrFun e607 86) 39).trans rfl)] at hp619
            rw [hF609.1 86 35 (by decide), hF609.1 86 37 (by decide), (show σ606 86 36 = ((σ546 86 36) + 1) from (congrFun (congrFun e607 86) 36).trans rfl)] at hx620
            show qr_W (qe L xs vb) (d + 1) qx_e218 _ (49, _, [.int (qz v618)], qw σ627 α κ ρ, 0, 0)
            refine qr_istore_n _ 50 rfl (by decide) rfl rfl ?_
            refine qr_iload_n 51 rfl (qm_gk g544 (by decide) (Or.inr rfl)) rfl ?_
            refine qr_bipush 53 rfl (by decide) rfl ?_
            refine qr_icmp_ne 62 56 rfl rfl rfl (by omega) (by omega) (fun h634 => ?_) (fun h => False.elim (by omega))
            refine qr_iload_n 63 rfl (qm_ge _ _ _) rfl ?_
            refine qr_if_ne 70 66 rfl rfl rfl (by omega) (fun h635 => ?_) (fun h635 => ?_)
            · skip
              refine qr_iload_n 71 rfl (qm_gk g544 (by decide) (Or.inr rfl)) rfl ?_
              refine qr_bipush 73 rfl (by decide) rfl ?_
              refine qr_icmp_ne 82 76 rfl rfl rfl (by omega) (by omega) (fun h => False.elim (by omega)) (fun h636 => ?_)
              refine qr_iload_n 77 rfl (qm_gk g542 (by decide) (Or.inl (by decide))) rfl ?_
              refine qr_iload_n 78 rfl (qm_ge _ _ _) rfl ?_
              refine qr_idivW 79 rfl (by omega) rfl ?_
              refine qy_canE (fun v637 hv637 hev637 => ?_)
              refine qr_goto 85 rfl rfl ?_
              refine qr_istore_n _ 86 rfl (by decide) rfl rfl ?_
              refine qr_aload_n 87 rfl (qm_gk (qm_gk g541 (by decide) (Or.inl (by decide))) (by decide) (Or.inr rfl)) rfl ?_
              refine qr_callN 90 rfl rfl rfl (sf_220_86x (d := d + 0) hI628 ) ?_
              have hs640 : (-1) ≤ σ627 86 35 ∧ σ627 86 35 ≤ 120 := hI628.1 86 35
              have hs641 : σ627 86 35 = (σ 86 35) := (hG629.1 86 35 (by decide)).trans ((congrFun (congrFun e607 86) 35).trans ((hk550).trans rfl))
              have hs642 : 0 ≤ σ627 86 36 ∧ σ627 86 36 ≤ 120 := hI628.1 86 36
              have hs643 : 0 ≤ σ627 86 37 ∧ σ627 86 37 ≤ 120 := hI628.1 86 37
              have hs644 : σ627 86 37 = (σ 86 37) := (hG629.1 86 37 (by decide)).trans ((congrFun (congrFun e607 86) 37).trans ((hk551).trans rfl))
              rintro _ _ ⟨rfl, v638, rfl, hv638, hp639⟩
              rw [hF630.1 86 35 (by decide), hF630.1 86 37 (by decide)] at hp639
              show qr_W (qe L xs vb) (d + 1) qx_e218 _ (90, _, [.int (qz v638)], qw σ627 α κ ρ, 0, 0)
              refine qr_istore_n _ 91 rfl (by decide) rfl rfl ?_
              refine qr_goto 10 rfl rfl ?_
              exact ih558 _ v637 v638 σ627 (by omega) (qm_gk (qm_gk (qm_gk g541 (by decide) (Or.inl (by decide))) (by decide) (Or.inr rfl)) (by decide) (Or.inl (by decide))) (qm_gk (qm_ge _ _ _) (by decide) (Or.inr rfl)) (qm_ge _ _ _) (by omega) (by omega) hI628 hF630 ((hG629.1 86 35 (by decide)).trans ((congrFun (congrFun e607 86) 35).trans ((hk550).trans rfl))) ((hG629.1 86 37 (by decide)).trans ((congrFun (congrFun e607 86) 37).trans ((hk551).trans rfl))) (by have hlo := qtx_lo_c (qtx_c (qtT (α 106) (α 107) (σ 86 35)) (σ 86 37) (σ546 86 36)); have hi : qLI (qtT (α 106) (α 107) (σ 86 35)) (σ 86 37) (qtx_lv (qtT (α 106) (α 107) (σ 86 35)) (σ 86 37) (fun b => qtx_on (qtT (α 106) (α 107) (σ 86 35)) (σ 86 37) (α 109) ro b) 0) 4 ((qtx_lv (qtT (α 106) (α 107) (σ 86 35)) (σ 86 37) (fun b => qtx_on (qtT (α 106) (α 107) (σ 86 35)) (σ 86 37) (α 109) ro b) (0 + 1)) (σ 86 36)) u543 (σ546 86 36) (-1) := (by have h9 := hx554; rwa [show σ546 86 38 = -1 by omega] at h9); exact qLI_s hi (by omega) (by decide) (by omega) hx620 (by omega) (fun _ => qap_div (by omega) (by omega) hev637 (by omega))) (by omega) (by omega)
            · skip
              refine qr_iconst 67 rfl rfl ?_
              refine qr_goto 85 rfl rfl ?_
              refine qr_istore_n _ 86 rfl (by decide) rfl rfl ?_
              refine qr_aload_n 87 rfl (qm_gk (qm_gk g541 (by decide) (Or.inl (by decide))) (by decide) (Or.inr rfl)) rfl ?_
              refine qr_callN 90 rfl rfl rfl (sf_220_86x (d := d + 0) hI628 ) ?_
              have hs647 : (-1) ≤ σ627 86 35 ∧ σ627 86 35 ≤ 120 := hI628.1 86 35
              have hs648 : σ627 86 35 = (σ 86 35) := (hG629.1 86 35 (by decide)).trans ((congrFun (congrFun e607 86) 35).trans ((hk550).trans rfl))
              have hs649 : 0 ≤ σ627 86 36 ∧ σ627 86 36 ≤ 120 := hI628.1 86 36
              have hs650 : 0 ≤ σ627 86 37 ∧ σ627 86 37 ≤ 120 := hI628.1 86 37
              have hs651 : σ627 86 37 = (σ 86 37) := (hG629.1 86 37 (by decide)).trans ((congrFun (congrFun e607 86) 37).trans ((hk551).trans rfl))
              rintro _ _ ⟨rfl, v645, rfl, hv645, hp646⟩
              rw [hF630.1 86 35 (by decide), hF630.1 86 37 (by decide)] at hp646
              show qr_W (qe L xs vb) (d + 1) qx_e218 _ (90, _, [.int (qz v645)], qw σ627 α κ ρ, 0, 0)
              refine qr_istore_n _ 91 rfl (by decide) rfl rfl ?_
              refine qr_goto 10 rfl rfl ?_
              exact ih558 _ 0 v645 σ627 (by omega) (qm_gk (qm_gk (qm_gk g541 (by decide) (Or.inl (by decide))) (by decide) (Or.inr rfl)) (by decide) (Or.inl (by decide))) (qm_gk (qm_ge _ _ _) (by decide) (Or.inr rfl)) (qm_ge _ _ _) (by omega) (by omega) hI628 hF630 ((hG629.1 86 35 (by decide)).trans ((congrFun (congrFun e607 86) 35).trans ((hk550).trans rfl))) ((hG629.1 86 37 (by decide)).trans ((congrFun (congrFun e607 86) 37).trans ((hk551).trans rfl))) (by have hlo := qtx_lo_c (qtx_c (qtT (α 106) (α 107) (σ 86 35)) (σ 86 37) (σ546 86 36)); have hi : qLI (qtT (α 106) (α 107) (σ 86 35)) (σ 86 37) (qtx_lv (qtT (α 106) (α 107) (σ 86 35)) (σ 86 37) (fun b => qtx_on (qtT (α 106) (α 107) (σ 86 35)) (σ 86 37) (α 109) ro b) 0) 4 ((qtx_lv (qtT (α 106) (α 107) (σ 86 35)) (σ 86 37) (fun b => qtx_on (qtT (α 106) (α 107) (σ 86 35)) (σ 86 37) (α 109) ro b) (0 + 1)) (σ 86 36)) u543 (σ546 86 36) (-1) := (by have h9 := hx554; rwa [show σ546 86 38 = -1 by omega] at h9); exact qLI_s hi (by omega) (by decide) (by omega) hx620 (by omega) (fun _ => qap_z (by omega) (by omega))) (by omega) (by omega)
          · skip
            refine qr_iload_n 30 rfl g544 rfl ?_
            refine qr_bipush 32 rfl (by decide) rfl ?_
            refine qr_icmp_ne 94 35 rfl rfl rfl (by omega) (by omega) (fun h652 => ?_) (fun h652 => ?_)
            · skip
              refine qr_iload_n 95 rfl g542 rfl ?_
              refine qr_retI rfl rfl (by decide) (by decide) ?_
              have hw653 : σ546 86 36 = (σ546 86 36) := rfl
              have hw654 : σ546 86 38 = (σ546 86 38) := rfl
              have hw655 : σ546 86 39 = (σ546 86 39) := rfl
              exact ⟨_, rfl, hI548, hF549, u543, rfl, by omega, by omega, (by exact (qLI_e hx554 (fun _ => by have hlo := qtx_lo_c (qtx_c (qtT (α 106) (α 107) (σ 86 35)) (σ 86 37) (σ546 86 36)); omega)))⟩
            · skip
              refine qr_aload_n 36 rfl g541 rfl ?_
              refine qr_dup 37 rfl rfl rfl ?_
              refine qr_get 40 rfl rfl rfl (by decide) rfl ?_
              refine qr_iconst 41 rfl rfl ?_
              refine qr_iadd 42 rfl rfl ?_
              refine qr_put 45 rfl (by decide) rfl (Nat.le_of_ble_eq_true rfl) (Nat.le_of_ble_eq_true rfl) (Or.inl rfl) (qr_fitI rfl _) rfl ?_
              refine qy_wS (qw_s σ546 86 36 ((σ546 86 36) + 1)) rfl (fun σ656 e657 => ?_)
              have hI658 : qI σ656 α κ ρ := by rw [e657]; exact qI_s hI548 86 36 rfl (show 0 ≤ ((σ546 86 36) + 1) ∧ ((σ546 86 36) + 1) ≤ 120 by omega)
              have hF659 : qFr [(86, 36), (86, 38), (86, 39)] [] σ α σ656 α := by rw [e657]; exact qFr_s hF549 86 36 _ (by decide)
              refine qr_aload_n 46 rfl g541 rfl ?_
              have hs660 : 0 ≤ σ656 86 36 ∧ σ656 86 36 ≤ 120 := hI658.1 86 36
              have hs661 : σ656 86 36 = ((σ546 86 36) + 1) := (congrFun (congrFun e657 86) 36).trans rfl
              have hs662 : 0 ≤ σ656 86 37 ∧ σ656 86 37 ≤ 120 := hI658.1 86 37
              have hs663 : σ656 86 37 = (σ 86 37) := (congrFun (congrFun e657 86) 37).trans ((hk551).trans rfl)
              have hs664 : (-1) ≤ σ656 86 38 ∧ σ656 86 38 ≤ 120 := hI658.1 86 38
              have hs665 : σ656 86 38 = (σ546 86 38) := (congrFun (congrFun e657 86) 38).trans rfl
              have hs666 : 0 ≤ σ656 86 39 ∧ σ656 86 39 ≤ 6 := hI658.1 86 39
              have hs667 : σ656 86 39 = (σ546 86 39) := (congrFun (congrFun e657 86) 39).trans rfl
              refine qr_callN 49 rfl rfl rfl (ihC hI658 (by omega) (by omega) (by omega)) ?_
              have hs671 : 0 ≤ σ656 86 36 ∧ σ656 86 36 ≤ 120 := hI658.1 86 36
              have hs672 : σ656 86 36 = ((σ546 86 36) + 1) := (congrFun (congrFun e657 86) 36).trans rfl
              have hs673 : 0 ≤ σ656 86 37 ∧ σ656 86 37 ≤ 120 := hI658.1 86 37
              have hs674 : σ656 86 37 = (σ 86 37) := (congrFun (congrFun e657 86) 37).trans ((hk551).trans rfl)
              have hs675 : 0 ≤ σ656 86 39 ∧ σ656 86 39 ≤ 6 := hI658.1 86 39
              have hs676 : σ656 86 39 = (σ546 86 39) := (congrFun (congrFun e657 86) 39).trans rfl
              rintro _ _ ⟨σ677, rfl, hI678, hG679, v668, rfl, hv668, hp669, hx670⟩
              have hF680 : qFr [(86, 36), (86, 38), (86, 39)] [] σ α σ677 α := qFr_t hF659 hG679 (by decide) (by decide)
              have hs681 : 0 ≤ σ677 86 36 ∧ σ677 86 36 ≤ 120 := hI678.1 86 36
              have hs682 : (-1) ≤ σ677 86 38 ∧ σ677 86 38 ≤ 120 := hI678.1 86 38
              have hs683 : 0 ≤ σ677 86 39 ∧ σ677 86 39 ≤ 6 := hI678.1 86 39
              rw [hF659.1 86 37 (by decide), (show σ656 86 36 = ((σ546 86 36) + 1) from (congrFun (congrFun e657 86) 36).trans rfl), (show σ656 86 39 = (σ546 86 39) from (congrFun (congrFun e657 86) 39).trans rfl)] at hp669
              rw [hF659.1 86 35 (by decide), hF659.1 86 37 (by decide), (show σ656 86 36 = ((σ546 86 36) + 1) from (congrFun (congrFun e657 86) 36).trans rfl)] at hx670
              show qr_W (qe L xs vb) (d + 1) qx_e218 _ (49, _, [.int (qz v668)], qw σ677 α κ ρ, 0, 0)
              refine qr_istore_n _ 50 rfl (by decide) rfl rfl ?_
              refine qr_iload_n 51 rfl (qm_gk g544 (by decide) (Or.inr rfl)) rfl ?_
              refine qr_bipush 53 rfl (by decide) rfl ?_
              refine qr_icmp_ne 62 56 rfl rfl rfl (by omega) (by omega) (fun h684 => ?_) (fun h => False.elim (by omega))
              refine qr_iload_n 63 rfl (qm_ge _ _ _) rfl ?_
              refine qr_if_ne 70 66 rfl rfl rfl (by omega) (fun h685 => ?_) (fun h685 => ?_)
              · skip
                refine qr_iload_n 71 rfl (qm_gk g544 (by decide) (Or.inr rfl)) rfl ?_
                refine qr_bipush 73 rfl (by decide) rfl ?_
                refine qr_icmp_ne 82 76 rfl rfl rfl (by omega) (by omega) (fun h686 => ?_) (fun h => False.elim (by omega))
                refine qr_iload_n 83 rfl (qm_gk g542 (by decide) (Or.inl (by decide))) rfl ?_
                refine qr_iload_n 84 rfl (qm_ge _ _ _) rfl ?_
                refine qr_iremW 85 rfl (by omega) rfl ?_
                refine qy_canE (fun v687 hv687 hev687 => ?_)
                refine qr_istore_n _ 86 rfl (by decide) rfl rfl ?_
                refine qr_aload_n 87 rfl (qm_gk (qm_gk g541 (by decide) (Or.inl (by decide))) (by decide) (Or.inr rfl)) rfl ?_
                refine qr_callN 90 rfl rfl rfl (sf_220_86x (d := d + 0) hI678 ) ?_
                have hs690 : (-1) ≤ σ677 86 35 ∧ σ677 86 35 ≤ 120 := hI678.1 86 35
                have hs691 : σ677 86 35 = (σ 86 35) := (hG679.1 86 35 (by decide)).trans ((congrFun (congrFun e657 86) 35).trans ((hk550).trans rfl))
                have hs692 : 0 ≤ σ677 86 36 ∧ σ677 86 36 ≤ 120 := hI678.1 86 36
                have hs693 : 0 ≤ σ677 86 37 ∧ σ677 86 37 ≤ 120 := hI678.1 86 37
                have hs694 : σ677 86 37 = (σ 86 37) := (hG679.1 86 37 (by decide)).trans ((congrFun (congrFun e657 86) 37).trans ((hk551).trans rfl))
                rintro _ _ ⟨rfl, v688, rfl, hv688, hp689⟩
                rw [hF680.1 86 35 (by decide), hF680.1 86 37 (by decide)] at hp689
                show qr_W (qe L xs vb) (d + 1) qx_e218 _ (90, _, [.int (qz v688)], qw σ677 α κ ρ, 0, 0)
                refine qr_istore_n _ 91 rfl (by decide) rfl rfl ?_
                refine qr_goto 10 rfl rfl ?_
                exact ih558 _ v687 v688 σ677 (by omega) (qm_gk (qm_gk (qm_gk g541 (by decide) (Or.inl (by decide))) (by decide) (Or.inr rfl)) (by decide) (Or.inl (by decide))) (qm_gk (qm_ge _ _ _) (by decide) (Or.inr rfl)) (qm_ge _ _ _) (by omega) (by omega) hI678 hF680 ((hG679.1 86 35 (by decide)).trans ((congrFun (congrFun e657 86) 35).trans ((hk550).trans rfl))) ((hG679.1 86 37 (by decide)).trans ((congrFun (congrFun e657 86) 37).trans ((hk551).trans rfl))) (by have hlo := qtx_lo_c (qtx_c (qtT (α 106) (α 107) (σ 86 35)) (σ 86 37) (σ546 86 36)); have hi : qLI (qtT (α 106) (α 107) (σ 86 35)) (σ 86 37) (qtx_lv (qtT (α 106) (α 107) (σ 86 35)) (σ 86 37) (fun b => qtx_on (qtT (α 106) (α 107) (σ 86 35)) (σ 86 37) (α 109) ro b) 0) 4 ((qtx_lv (qtT (α 106) (α 107) (σ 86 35)) (σ 86 37) (fun b => qtx_on (qtT (α 106) (α 107) (σ 86 35)) (σ 86 37) (α 109) ro b) (0 + 1)) (σ 86 36)) u543 (σ546 86 36) (-1) := (by have h9 := hx554; rwa [show σ546 86 38 = -1 by omega] at h9); exact qLI_s hi (by omega) (by decide) (by omega) hx670 (by omega) (fun _ => qap_rem (by omega) (by omega) hev687 (by omega))) (by omega) (by omega)
              · skip
                refine qr_iconst 67 rfl rfl ?_
                refine qr_goto 85 rfl rfl ?_
                refine qr_istore_n _ 86 rfl (by decide) rfl rfl ?_
                refine qr_aload_n 87 rfl (qm_gk (qm_gk g541 (by decide) (Or.inl (by decide))) (by decide) (Or.inr rfl)) rfl ?_
                refine qr_callN 90 rfl rfl rfl (sf_220_86x (d := d + 0) hI678 ) ?_
                have hs697 : (-1) ≤ σ677 86 35 ∧ σ677 86 35 ≤ 120 := hI678.1 86 35
                have hs698 : σ677 86 35 = (σ 86 35) := (hG679.1 86 35 (by decide)).trans ((congrFun (congrFun e657 86) 35).trans ((hk550).trans rfl))
                have hs699 : 0 ≤ σ677 86 36 ∧ σ677 86 36 ≤ 120 := hI678.1 86 36
                have hs700 : 0 ≤ σ677 86 37 ∧ σ677 86 37 ≤ 120 := hI678.1 86 37
                have hs701 : σ677 86 37 = (σ 86 37) := (hG679.1 86 37 (by decide)).trans ((congrFun (congrFun e657 86) 37).trans ((hk551).trans rfl))
                rintro _ _ ⟨rfl, v695, rfl, hv695, hp696⟩
                rw [hF680.1 86 35 (by decide), hF680.1 86 37 (by decide)] at hp696
                show qr_W (qe L xs vb) (d + 1) qx_e218 _ (90, _, [.int (qz v695)], qw σ677 α κ ρ, 0, 0)
                refine qr_istore_n _ 91 rfl (by decide) rfl rfl ?_
                refine qr_goto 10 rfl rfl ?_
                exact ih558 _ 0 v695 σ677 (by omega) (qm_gk (qm_gk (qm_gk g541 (by decide) (Or.inl (by decide))) (by decide) (Or.inr rfl)) (by decide) (Or.inl (by decide))) (qm_gk (qm_ge _ _ _) (by decide) (Or.inr rfl)) (qm_ge _ _ _) (by omega) (by omega) hI678 hF680 ((hG679.1 86 35 (by decide)).trans ((congrFun (congrFun e657 86) 35).trans ((hk550).trans rfl))) ((hG679.1 86 37 (by decide)).trans ((congrFun (congrFun e657 86) 37).trans ((hk551).trans rfl))) (by have hlo := qtx_lo_c (qtx_c (qtT (α 106) (α 107) (σ 86 35)) (σ 86 37) (σ546 86 36)); have hi : qLI (qtT (α 106) (α 107) (σ 86 35)) (σ 86 37) (qtx_lv (qtT (α 106) (α 107) (σ 86 35)) (σ 86 37) (fun b => qtx_on (qtT (α 106) (α 107) (σ 86 35)) (σ 86 37) (α 109) ro b) 0) 4 ((qtx_lv (qtT (α 106) (α 107) (σ 86 35)) (σ 86 37) (fun b => qtx_on (qtT (α 106) (α 107) (σ 86 35)) (σ 86 37) (α 109) ro b) (0 + 1)) (σ 86 36)) u543 (σ546 86 36) (-1) := (by have h9 := hx554; rwa [show σ546 86 38 = -1 by omega] at h9); exact qLI_s hi (by omega) (by decide) (by omega) hx670 (by omega) (fun _ => qap_z (by omega) (by omega))) (by omega) (by omega)
  exact hL557 ((((120 - σ11 86 36).toNat : Int) + 1 : Int)).toNat _ v5 v18 σ11 (by omega) rfl rfl rfl (by omega) (by omega) hI12 hF14 ((hG13.1 86 35 (by decide)).trans rfl) ((hG13.1 86 37 (by decide)).trans rfl) (by exact qLI_0 hx7 ⟨by omega, by omega⟩) (by omega) (by omega)

set_option maxHeartbeats 4000000 in
set_option maxRecDepth 20000 in
/-- OneRoofModel.sums -/
theorem sf_217_86x {L : Nat} {xs : Nat → Int} {vb : Bool} {d : Nat} {σ α : Nat → Nat → Int} {κ : Nat → Option Nat} {ρ : Nat} {ro : Nat} (ihC : ∀ {σ α : Nat → Nat → Int}, qI σ α κ ρ → σ 86 36 ≤ σ 86 37 → σ 86 38 = -1 → σ 86 39 + (ro : Int) = 6 → qm_T (qe L xs vb) (d + 1) 218 [.ref 86] (qw σ α κ ρ) (fun r w' => ∃ σ', w' = qw σ' α κ ρ ∧ qI σ' α κ ρ ∧ qFr [(86, 36), (86, 38), (86, 39)] [] σ α σ' α ∧ ∃ v : Int, r = some (.int (qz v)) ∧ ((-2147483648) ≤ v ∧ v ≤ 2147483647) ∧ (σ 86 36 ≤ σ' 86 36 ∧ σ' 86 36 ≤ σ 86 37 ∧ σ 86 39 ≤ σ' 86 39 ∧ ((σ' 86 38 = -1 ∧ σ' 86 39 = σ 86 39 ∧ σ 86 36 < σ' 86 36) ∨ σ' 86 38 = σ' 86 36)) ∧ qRes ((qtx_lv (qtT (α 106) (α 107) (σ 86 35)) (σ 86 37) (fun b => qtx_on (qtT (α 106) (α 107) (σ 86 35)) (σ 86 37) (α 109) ro b) 1) (σ 86 36)) v (σ' 86 36) (σ' 86 38))) (hI : qI σ α κ ρ) (p0 : σ 86 36 ≤ σ 86 37) (p1 : σ 86 38 = -1) (p2 : σ 86 39 + (ro : Int) = 6) : qm_T (qe L xs vb) (d + 2) 217 [.ref 86] (qw σ α κ ρ) (fun r w' => ∃ σ', w' = qw σ' α κ ρ ∧ qI σ' α κ ρ ∧ qFr [(86, 36), (86, 38), (86, 39)] [] σ α σ' α ∧ ∃ v : Int, r = some (.int (qz v)) ∧ ((-2147483648) ≤ v ∧ v ≤ 2147483647) ∧ (σ 86 36 ≤ σ' 86 36 ∧ σ' 86 36 ≤ σ 86 37 ∧ σ 86 39 ≤ σ' 86 39 ∧ ((σ' 86 38 = -1 ∧ σ' 86 39 = σ 86 39 ∧ σ 86 36 < σ' 86 36) ∨ σ' 86 38 = σ' 86 36)) ∧ qRes ((qtx_lv (qtT (α 106) (α 107) (σ 86 35)) (σ 86 37) (fun b => qtx_on (qtT (α 106) (α 107) (σ 86 35)) (σ 86 37) (α 109) ro b) (1 + 1)) (σ 86 36)) v (σ' 86 36) (σ' 86 38)) := by
  refine qr_start (d := d + 1) qv_e217 (Nat.le_of_ble_eq_true rfl) ?_
  show qr_W (qe L xs vb) (d + 1) qx_e217 _ (0, [(0, .ref 86)], [], _, 0, 0)
  have hF0 := qFr_rf [(86, 36), (86, 38), (86, 39)] [] σ α
  have hz86_36 : 0 ≤ σ 86 36 ∧ σ 86 36 ≤ 120 := hI.1 86 36
  have hz86_37 : 0 ≤ σ 86 37 ∧ σ 86 37 ≤ 120 := hI.1 86 37
  have hz86_39 : 0 ≤ σ 86 39 ∧ σ 86 39 ≤ 6 := hI.1 86 39
  have hz86_38 : (-1) ≤ σ 86 38 ∧ σ 86 38 ≤ 120 := hI.1 86 38
  have hz86_35 : (-1) ≤ σ 86 35 ∧ σ 86 35 ≤ 120 := hI.1 86 35
  refine qr_aload_n 1 rfl rfl rfl ?_
  have hs1 : 0 ≤ σ 86 36 ∧ σ 86 36 ≤ 120 := hI.1 86 36
  have hs2 : 0 ≤ σ 86 37 ∧ σ 86 37 ≤ 120 := hI.1 86 37
  have hs3 : (-1) ≤ σ 86 38 ∧ σ 86 38 ≤ 120 := hI.1 86 38
  have hs4 : 0 ≤ σ 86 39 ∧ σ 86 39 ≤ 6 := hI.1 86 39
  refine qr_callN 4 rfl rfl rfl (ihC hI (by omega) (by omega) (by omega)) ?_
  have hs8 : 0 ≤ σ 86 36 ∧ σ 86 36 ≤ 120 := hI.1 86 36
  have hs9 : 0 ≤ σ 86 37 ∧ σ 86 37 ≤ 120 := hI.1 86 37
  have hs10 : 0 ≤ σ 86 39 ∧ σ 86 39 ≤ 6 := hI.1 86 39
  rintro _ _ ⟨σ11, rfl, hI12, hG13, v5, rfl, hv5, hp6, hx7⟩
  have hF14 : qFr [(86, 36), (86, 38), (86, 39)] [] σ α σ11 α := qFr_t hF0 hG13 (by decide) (by decide)
  have hs15 : 0 ≤ σ11 86 36 ∧ σ11 86 36 ≤ 120 := hI12.1 86 36
  have hs16 : (-1) ≤ σ11 86 38 ∧ σ11 86 38 ≤ 120 := hI12.1 86 38
  have hs17 : 0 ≤ σ11 86 39 ∧ σ11 86 39 ≤ 6 := hI12.1 86 39
  show qr_W (qe L xs vb) (d + 1) qx_e217 _ (4, _, [.int (qz v5)], qw σ11 α κ ρ, 0, 0)
  refine qr_istore_n _ 5 rfl (by decide) rfl rfl ?_
  have hL634 : ∀ (n : Nat) (ls : qm_L) (u624 : Int) (σ625 : Nat → Nat → Int), ((120 - σ625 86 36).toNat : Int) < (n : Int) → qm_get ls 0 = some (.ref 86) → qm_get ls 1 = some (.int (qz u624)) → ((-2147483648) ≤ u624 ∧ u624 ≤ 2147483647) → qI σ625 α κ ρ → qFr [(86, 36), (86, 38), (86, 39)] [] σ α σ625 α → σ625 86 35 = (σ 86 35) → σ625 86 37 = (σ 86 37) → qLI (qtT (α 106) (α 107) (σ 86 35)) (σ 86 37) (qtx_lv (qtT (α 106) (α 107) (σ 86 35)) (σ 86 37) (fun b => qtx_on (qtT (α 106) (α 107) (σ 86 35)) (σ 86 37) (α 109) ro b) 1) 3 ((qtx_lv (qtT (α 106) (α 107) (σ 86 35)) (σ 86 37) (fun b => qtx_on (qtT (α 106) (α 107) (σ 86 35)) (σ 86 37) (α 109) ro b) (1 + 1)) (σ 86 36)) u624 (σ625 86 36) (σ625 86 38) → (σ 86 36 ≤ σ625 86 36 ∧ σ625 86 36 ≤ σ 86 37 ∧ σ 86 39 ≤ σ625 86 39 ∧ ((σ625 86 38 = -1 ∧ σ625 86 39 = σ 86 39 ∧ σ 86 36 < σ625 86 36) ∨ σ625 86 38 = σ625 86 36)) → qr_W (qe L xs vb) (d + 1) qx_e217 (fun r w' => ∃ σ', w' = qw σ' α κ ρ ∧ qI σ' α κ ρ ∧ qFr [(86, 36), (86, 38), (86, 39)] [] σ α σ' α ∧ ∃ v : Int, r = some (.int (qz v)) ∧ ((-2147483648) ≤ v ∧ v ≤ 2147483647) ∧ (σ 86 36 ≤ σ' 86 36 ∧ σ' 86 36 ≤ σ 86 37 ∧ σ 86 39 ≤ σ' 86 39 ∧ ((σ' 86 38 = -1 ∧ σ' 86 39 = σ 86 39 ∧ σ 86 36 < σ' 86 36) ∨ σ' 86 38 = σ' 86 36)) ∧ qRes ((qtx_lv (qtT (α 106) (α 107) (σ 86 35)) (σ 86 37) (fun b => qtx_on (qtT (α 106) (α 107) (σ 86 35)) (σ 86 37) (α 109) ro b) (1 + 1)) (σ 86 36)) v (σ' 86 36) (σ' 86 38)) (5, ls, [], qw σ625 α κ ρ, 0, 0) := by
    intro n
    induction n with
    | zero => intro ls u624 σ625 hm g622 g623 hf631 hI627 hF628 hk629 hk630 hx632 hx633; exact False.elim (by omega)
    | succ n ih635 =>
      intro ls u624 σ625 hm g622 g623 hf631 hI627 hF628 hk629 hk630 hx632 hx633
      have hs636 : 0 ≤ σ625 86 36 ∧ σ625 86 36 ≤ 120 := hI627.1 86 36
      have hs637 : (-1) ≤ σ625 86 38 ∧ σ625 86 38 ≤ 120 := hI627.1 86 38
      have hs638 : 0 ≤ σ625 86 39 ∧ σ625 86 39 ≤ 6 := hI627.1 86 39
      have hcc639 := qtx_c_2 (qtT (α 106) (α 107) (σ 86 35)) (σ 86 37) (σ625 86 36)
      refine qr_aload_n 6 rfl g622 rfl ?_
      refine qr_get 9 rfl rfl rfl (by decide) rfl ?_
      refine qr_if_ge 77 12 rfl rfl rfl (by omega) (fun h640 => ?_) (fun h640 => ?_)
      · skip
        refine qr_iload_n 78 rfl g623 rfl ?_
        refine qr_retI rfl rfl (by decide) (by decide) ?_
        have hw641 : σ625 86 36 = (σ625 86 36) := rfl
        have hw642 : σ625 86 38 = (σ625 86 38) := rfl
        have hw643 : σ625 86 39 = (σ625 86 39) := rfl
        exact ⟨_, rfl, hI627, hF628, u624, rfl, by omega, by omega, (by exact (qLI_e hx632 (fun _ => by have hlo := qtx_lo_c (qtx_c (qtT (α 106) (α 107) (σ 86 35)) (σ 86 37) (σ625 86 36)); omega)))⟩
      · skip
        refine qr_aload_n 13 rfl g622 rfl ?_
        refine qr_callN 16 rfl rfl rfl (sf_220_86x (d := d + 0) hI627 ) ?_
        have hs646 : (-1) ≤ σ625 86 35 ∧ σ625 86 35 ≤ 120 := hI627.1 86 35
        have hs647 : σ625 86 35 = (σ 86 35) := (hk629).trans rfl
        have hs648 : 0 ≤ σ625 86 36 ∧ σ625 86 36 ≤ 120 := hI627.1 86 36
        have hs649 : 0 ≤ σ625 86 37 ∧ σ625 86 37 ≤ 120 := hI627.1 86 37
        have hs650 : σ625 86 37 = (σ 86 37) := (hk630).trans rfl
        rintro _ _ ⟨rfl, v644, rfl, hv644, hp645⟩
        rw [hF628.1 86 35 (by decide), hF628.1 86 37 (by decide)] at hp645
        show qr_W (qe L xs vb) (d + 1) qx_e217 _ (16, _, [.int (qz v644)], qw σ625 α κ ρ, 0, 0)
        refine qr_bipush 18 rfl (by decide) rfl ?_
        refine qr_icmp_eq 30 21 rfl rfl rfl (by omega) (by omega) (fun h651 => ?_) (fun h651 => ?_)
        · skip
          refine qr_aload_n 31 rfl g622 rfl ?_
          refine qr_callN 34 rfl rfl rfl (sf_220_86x (d := d + 0) hI627 ) ?_
          have hs654 : (-1) ≤ σ625 86 35 ∧ σ625 86 35 ≤ 120 := hI627.1 86 35
          have hs655 : σ625 86 35 = (σ 86 35) := (hk629).trans rfl
          have hs656 : 0 ≤ σ625 86 36 ∧ σ625 86 36 ≤ 120 := hI627.1 86 36
          have hs657 : 0 ≤ σ625 86 37 ∧ σ625 86 37 ≤ 120 := hI627.1 86 37
          have hs658 : σ625 86 37 = (σ 86 37) := (hk630).trans rfl
          rintro _ _ ⟨rfl, v652, rfl, hv652, hp653⟩
          rw [hF628.1 86 35 (by decide), hF628.1 86 37 (by decide)] at hp653
          show qr_W (qe L xs vb) (d + 1) qx_e217 _ (34, _, [.int (qz v652)], qw σ625 α κ ρ, 0, 0)
          refine qr_bipush 36 rfl (by decide) rfl ?_
          refine qr_icmp_ne 43 39 rfl rfl rfl (by omega) (by omega) (fun h659 => ?_) (fun h659 => ?_)
          · skip
            refine qr_iconst 44 rfl rfl ?_
            refine qr_istore_n _ 45 rfl (by decide) rfl rfl ?_
            refine qr_aload_n 46 rfl (qm_gk g622 (by decide) (Or.inl (by decide))) rfl ?_
            refine qr_dup 47 rfl rfl rfl ?_
            refine qr_get 50 rfl rfl rfl (by decide) rfl ?_
            refine qr_iconst 51 rfl rfl ?_
            refine qr_iadd 52 rfl rfl ?_
            refine qr_put 55 rfl (by decide) rfl (Nat.le_of_ble_eq_true rfl) (Nat.le_of_ble_eq_true rfl) (Or.inl rfl) (qr_fitI rfl _) rfl ?_
            refine qy_wS (qw_s σ625 86 36 ((σ625 86 36) + 1)) rfl (fun σ660 e661 => ?_)
            have hI662 : qI σ660 α κ ρ := by rw [e661]; exact qI_s hI627 86 36 rfl (show 0 ≤ ((σ625 86 36) + 1) ∧ ((σ625 86 36) + 1) ≤ 120 by omega)
            have hF663 : qFr [(86, 36), (86, 38), (86, 39)] [] σ α σ660 α := by rw [e661]; exact qFr_s hF628 86 36 _ (by decide)
            refine qr_aload_n 56 rfl (qm_gk g622 (by decide) (Or.inl (by decide))) rfl ?_
            have hs664 : 0 ≤ σ660 86 36 ∧ σ660 86 36 ≤ 120 := hI662.1 86 36
            have hs665 : σ660 86 36 = ((σ625 86 36) + 1) := (congrFun (congrFun e661 86) 36).trans rfl
            have hs666 : 0 ≤ σ660 86 37 ∧ σ660 86 37 ≤ 120 := hI662.1 86 37
            have hs667 : σ660 86 37 = (σ 86 37) := (congrFun (congrFun e661 86) 37).trans ((hk630).trans rfl)
            have hs668 : (-1) ≤ σ660 86 38 ∧ σ660 86 38 ≤ 120 := hI662.1 86 38
            have hs669 : σ660 86 38 = (σ625 86 38) := (congrFun (congrFun e661 86) 38).trans rfl
            have hs670 : 0 ≤ σ660 86 39 ∧ σ660 86 39 ≤ 6 := hI662.1 86 39
            have hs671 : σ660 86 39 = (σ625 86 39) := (congrFun (congrFun e661 86) 39).trans rfl
            refine qr_callN 59 rfl rfl rfl (ihC hI662 (by omega) (by omega) (by omega)) ?_
            have hs675 : 0 ≤ σ660 86 36 ∧ σ660 86 36 ≤ 120 := hI662.1 86 36
            have hs676 : σ660 86 36 = ((σ625 86 36) + 1) := (congrFun (congrFun e661 86) 36).trans rfl
            have hs677 : 0 ≤ σ660 86 37 ∧ σ660 86 37 ≤ 120 := hI662.1 86 37
            have hs678 : σ660 86 37 = (σ 86 37) := (congrFun (congrFun e661 86) 37).trans ((hk630).trans rfl)
            have hs679 : 0 ≤ σ660 86 39 ∧ σ660 86 39 ≤ 6 := hI662.1 86 39
            have hs680 : σ660 86 39 = (σ625 86 39) := (congrFun (congrFun e661 86) 39).trans rfl
            rintro _ _ ⟨σ681, rfl, hI682, hG683, v672, rfl, hv672, hp673, hx674⟩
            have hF684 : qFr [(86, 36), (86, 38), (86, 39)] [] σ α σ681 α := qFr_t hF663 hG683 (by decide) (by decide)
            have hs685 : 0 ≤ σ681 86 36 ∧ σ681 86 36 ≤ 120 := hI682.1 86 36
            have hs686 : (-1) ≤ σ681 86 38 ∧ σ681 86 38 ≤ 120 := hI682.1 86 38
            have hs687 : 0 ≤ σ681 86 39 ∧ σ681 86 39 ≤ 6 := hI682.1 86 39
            rw [hF663.1 86 37 (by decide), (show σ660 86 36 = ((σ625 86 36) + 1) from (congrFun (congrFun e661 86) 36).trans rfl), (show σ660 86 39 = (σ625 86 39) from (congrFun (congrFun e661 86) 39).trans rfl)] at hp673
            rw [hF663.1 86 35 (by decide), hF663.1 86 37 (by decide), (show σ660 86 36 = ((σ625 86 36) + 1) from (congrFun (congrFun e661 86) 36).trans rfl)] at hx674
            show qr_W (qe L xs vb) (d + 1) qx_e217 _ (59, _, [.int (qz v672)], qw σ681 α κ ρ, 0, 0)
            refine qr_istore_n _ 60 rfl (by decide) rfl rfl ?_
            refine qr_iload_n 61 rfl (qm_gk (qm_ge _ _ _) (by decide) (Or.inr rfl)) rfl ?_
            refine qr_if_eq 70 64 rfl rfl rfl (by omega) (fun h688 => ?_) (fun h => False.elim (by omega))
            refine qr_iload_n 71 rfl (qm_gk (qm_gk g623 (by decide) (Or.inr rfl)) (by decide) (Or.inl (by decide))) rfl ?_
            refine qr_iload_n 72 rfl (qm_ge _ _ _) rfl ?_
            refine qr_isub 73 rfl rfl ?_
            refine qy_canE (fun v689 hv689 hev689 => ?_)
            refine qr_istore_n _ 74 rfl (by decide) rfl rfl ?_
            refine qr_goto 5 rfl rfl ?_
            exact ih635 _ v689 σ681 (by omega) (qm_gk (qm_gk (qm_gk g622 (by decide) (Or.inl (by decide))) (by decide) (Or.inl (by decide))) (by decide) (Or.inr rfl)) (qm_ge _ _ _) (by omega) hI682 hF684 ((hG683.1 86 35 (by decide)).trans ((congrFun (congrFun e661 86) 35).trans ((hk629).trans rfl))) ((hG683.1 86 37 (by decide)).trans ((congrFun (congrFun e661 86) 37).trans ((hk630).trans rfl))) (by have hlo := qtx_lo_c (qtx_c (qtT (α 106) (α 107) (σ 86 35)) (σ 86 37) (σ625 86 36)); have hi : qLI (qtT (α 106) (α 107) (σ 86 35)) (σ 86 37) (qtx_lv (qtT (α 106) (α 107) (σ 86 35)) (σ 86 37) (fun b => qtx_on (qtT (α 106) (α 107) (σ 86 35)) (σ 86 37) (α 109) ro b) 1) 3 ((qtx_lv (qtT (α 106) (α 107) (σ 86 35)) (σ 86 37) (fun b => qtx_on (qtT (α 106) (α 107) (σ 86 35)) (σ 86 37) (α 109) ro b) (1 + 1)) (σ 86 36)) u624 (σ625 86 36) (-1) := (by have h9 := hx632; rwa [show σ625 86 38 = -1 by omega] at h9); exact qLI_s hi (by omega) (by decide) (by omega) hx674 (by omega) (fun _ => qap_sub (by omega) hev689 (by omega))) (by omega)
          · skip
            refine qr_iconst 40 rfl rfl ?_
            refine qr_goto 44 rfl rfl ?_
            refine qr_istore_n _ 45 rfl (by decide) rfl rfl ?_
            refine qr_aload_n 46 rfl (qm_gk g622 (by decide) (Or.inl (by decide))) rfl ?_
            refine qr_dup 47 rfl rfl rfl ?_
            refine qr_get 50 rfl rfl rfl (by decide) rfl ?_
            refine qr_iconst 51 rfl rfl ?_
            refine qr_iadd 52 rfl rfl ?_
            refine qr_put 55 rfl (by decide) rfl (Nat.le_of_ble_eq_true rfl) (Nat.le_of_ble_eq_true rfl) (Or.inl rfl) (qr_fitI rfl _) rfl ?_
            refine qy_wS (qw_s σ625 86 36 ((σ625 86 36) + 1)) rfl (fun σ690 e691 => ?_)
            have hI692 : qI σ690 α κ ρ := by rw [e691]; exact qI_s hI627 86 36 rfl (show 0 ≤ ((σ625 86 36) + 1) ∧ ((σ625 86 36) + 1) ≤ 120 by omega)
            have hF693 : qFr [(86, 36), (86, 38), (86, 39)] [] σ α σ690 α := by rw [e691]; exact qFr_s hF628 86 36 _ (by decide)
            refine qr_aload_n 56 rfl (qm_gk g622 (by decide) (Or.inl (by decide))) rfl ?_
            have hs694 : 0 ≤ σ690 86 36 ∧ σ690 86 36 ≤ 120 := hI692.1 86 36
            have hs695 : σ690 86 36 = ((σ625 86 36) + 1) := (congrFun (congrFun e691 86) 36).trans rfl
            have hs696 : 0 ≤ σ690 86 37 ∧ σ690 86 37 ≤ 120 := hI692.1 86 37
            have hs697 : σ690 86 37 = (σ 86 37) := (congrFun (congrFun e691 86) 37).trans ((hk630).trans rfl)
            have hs698 : (-1) ≤ σ690 86 38 ∧ σ690 86 38 ≤ 120 := hI692.1 86 38
            have hs699 : σ690 86 38 = (σ625 86 38) := (congrFun (congrFun e691 86) 38).trans rfl
            have hs700 : 0 ≤ σ690 86 39 ∧ σ690 86 39 ≤ 6 := hI692.1 86 39
            have hs701 : σ690 86 39 = (σ625 86 39) := (congrFun (congrFun e691 86) 39).trans rfl
            refine qr_callN 59 rfl rfl rfl (ihC hI692 (by omega) (by omega) (by omega)) ?_
            have hs705 : 0 ≤ σ690 86 36 ∧ σ690 86 36 ≤ 120 := hI692.1 86 36
            have hs706 : σ690 86 36 = ((σ625 86 36) + 1) := (congrFun (congrFun e691 86) 36).trans rfl
            have hs707 : 0 ≤ σ690 86 37 ∧ σ690 86 37 ≤ 120 := hI692.1 86 37
            have hs708 : σ690 86 37 = (σ 86 37) := (congrFun (congrFun e691 86) 37).trans ((hk630).trans rfl)
            have hs709 : 0 ≤ σ690 86 39 ∧ σ690 86 39 ≤ 6 := hI692.1 86 39
            have hs710 : σ690 86 39 = (σ625 86 39) := (congrFun (congrFun e691 86) 39).trans rfl
            rintro _ _ ⟨σ711, rfl, hI712, hG713, v702, rfl, hv702, hp703, hx704⟩
            have hF714 : qFr [(86, 36), (86, 38), (86, 39)] [] σ α σ711 α := qFr_t hF693 hG713 (by decide) (by decide)
            have hs715 : 0 ≤ σ711 86 36 ∧ σ711 86 36 ≤ 120 := hI712.1 86 36
            have hs716 : (-1) ≤ σ711 86 38 ∧ σ711 86 38 ≤ 120 := hI712.1 86 38
            have hs717 : 0 ≤ σ711 86 39 ∧ σ711 86 39 ≤ 6 := hI712.1 86 39
            rw [hF693.1 86 37 (by decide), (show σ690 86 36 = ((σ625 86 36) + 1) from (congrFun (congrFun e691 86) 36).trans rfl), (show σ690 86 39 = (σ625 86 39) from (congrFun (congrFun e691 86) 39).trans rfl)] at hp703
            rw [hF693.1 86 35 (by decide), hF693.1 86 37 (by decide), (show σ690 86 36 = ((σ625 86 36) + 1) from (congrFun (congrFun e691 86) 36).trans rfl)] at hx704
            show qr_W (qe L xs vb) (d + 1) qx_e217 _ (59, _, [.int (qz v702)], qw σ711 α κ ρ, 0, 0)
            refine qr_istore_n _ 60 rfl (by decide) rfl rfl ?_
            refine qr_iload_n 61 rfl (qm_gk (qm_ge _ _ _) (by decide) (Or.inr rfl)) rfl ?_
            refine qr_if_eq 70 64 rfl rfl rfl (by omega) (fun h => False.elim (by omega)) (fun h718 => ?_)
            refine qr_iload_n 65 rfl (qm_gk (qm_gk g623 (by decide) (Or.inr rfl)) (by decide) (Or.inl (by decide))) rfl ?_
            refine qr_iload_n 66 rfl (qm_ge _ _ _) rfl ?_
            refine qr_iadd 67 rfl rfl ?_
            refine qy_canE (fun v719 hv719 hev719 => ?_)
            refine qr_goto 73 rfl rfl ?_
            refine qr_istore_n _ 74 rfl (by decide) rfl rfl ?_
            refine qr_goto 5 rfl rfl ?_
            exact ih635 _ v719 σ711 (by omega) (qm_gk (qm_gk (qm_gk g622 (by decide) (Or.inl (by decide))) (by decide) (Or.inl (by decide))) (by decide) (Or.inr rfl)) (qm_ge _ _ _) (by omega) hI712 hF714 ((hG713.1 86 35 (by decide)).trans ((congrFun (congrFun e691 86) 35).trans ((hk629).trans rfl))) ((hG713.1 86 37 (by decide)).trans ((congrFun (congrFun e691 86) 37).trans ((hk630).trans rfl))) (by have hlo := qtx_lo_c (qtx_c (qtT (α 106) (α 107) (σ 86 35)) (σ 86 37) (σ625 86 36)); have hi : qLI (qtT (α 106) (α 107) (σ 86 35)) (σ 86 37) (qtx_lv (qtT (α 106) (α 107) (σ 86 35)) (σ 86 37) (fun b => qtx_on (qtT (α 106) (α 107) (σ 86 35)) (σ 86 37) (α 109) ro b) 1) 3 ((qtx_lv (qtT (α 106) (α 107) (σ 86 35)) (σ 86 37) (fun b => qtx_on (qtT (α 106) (α 107) (σ 86 35)) (σ 86 37) (α 109) ro b) (1 + 1)) (σ 86 36)) u624 (σ625 86 36) (-1) := (by have h9 := hx632; rwa [show σ625 86 38 = -1 by omega] at h9); exact qLI_s hi (by omega) (by decide) (by omega) hx704 (by omega) (fun _ => qap_add (by omega) hev719 (by omega))) (by omega)
        · skip
          refine qr_aload_n 22 rfl g622 rfl ?_
          refine qr_callN 25 rfl rfl rfl (sf_220_86x (d := d + 0) hI627 ) ?_
          have hs722 : (-1) ≤ σ625 86 35 ∧ σ625 86 35 ≤ 120 := hI627.1 86 35
          have hs723 : σ625 86 35 = (σ 86 35) := (hk629).trans rfl
          have hs724 : 0 ≤ σ625 86 36 ∧ σ625 86 36 ≤ 120 := hI627.1 86 36
          have hs725 : 0 ≤ σ625 86 37 ∧ σ625 86 37 ≤ 120 := hI627.1 86 37
          have hs726 : σ625 86 37 = (σ 86 37) := (hk630).trans rfl
          rintro _ _ ⟨rfl, v720, rfl, hv720, hp721⟩
          rw [hF628.1 86 35 (by decide), hF628.1 86 37 (by decide)] at hp721
          show qr_W (qe L xs vb) (d + 1) qx_e217 _ (25, _, [.int (qz v720)], qw σ625 α κ ρ, 0, 0)
          refine qr_bipush 27 rfl (by decide) rfl ?_
          refine qr_icmp_ne 77 30 rfl rfl rfl (by omega) (by omega) (fun h727 => ?_) (fun h727 => ?_)
          · skip
            refine qr_iload_n 78 rfl g623 rfl ?_
            refine qr_retI rfl rfl (by decide) (by decide) ?_
            have hw728 : σ625 86 36 = (σ625 86 36) := rfl
            have hw729 : σ625 86 38 = (σ625 86 38) := rfl
            have hw730 : σ625 86 39 = (σ625 86 39) := rfl
            exact ⟨_, rfl, hI627, hF628, u624, rfl, by omega, by omega, (by exact (qLI_e hx632 (fun _ => by have hlo := qtx_lo_c (qtx_c (qtT (α 106) (α 107) (σ 86 35)) (σ 86 37) (σ625 86 36)); omega)))⟩
          · skip
            refine qr_aload_n 31 rfl g622 rfl ?_
            refine qr_callN 34 rfl rfl rfl (sf_220_86x (d := d + 0) hI627 ) ?_
            have hs733 : (-1) ≤ σ625 86 35 ∧ σ625 86 35 ≤ 120 := hI627.1 86 35
            have hs734 : σ625 86 35 = (σ 86 35) := (hk629).trans rfl
            have hs735 : 0 ≤ σ625 86 36 ∧ σ625 86 36 ≤ 120 := hI627.1 86 36
            have hs736 : 0 ≤ σ625 86 37 ∧ σ625 86 37 ≤ 120 := hI627.1 86 37
            have hs737 : σ625 86 37 = (σ 86 37) := (hk630).trans rfl
            rintro _ _ ⟨rfl, v731, rfl, hv731, hp732⟩
            rw [hF628.1 86 35 (by decide), hF628.1 86 37 (by decide)] at hp732
            show qr_W (qe L xs vb) (d + 1) qx_e217 _ (34, _, [.int (qz v731)], qw σ625 α κ ρ, 0, 0)
            refine qr_bipush 36 rfl (by decide) rfl ?_
            refine qr_icmp_ne 43 39 rfl rfl rfl (by omega) (by omega) (fun h738 => ?_) (fun h738 => ?_)
            · skip
              refine qr_iconst 44 rfl rfl ?_
              refine qr_istore_n _ 45 rfl (by decide) rfl rfl ?_
              refine qr_aload_n 46 rfl (qm_gk g622 (by decide) (Or.inl (by decide))) rfl ?_
              refine qr_dup 47 rfl rfl rfl ?_
              refine qr_get 50 rfl rfl rfl (by decide) rfl ?_
              refine qr_iconst 51 rfl rfl ?_
              refine qr_iadd 52 rfl rfl ?_
              refine qr_put 55 rfl (by decide) rfl (Nat.le_of_ble_eq_true rfl) (Nat.le_of_ble_eq_true rfl) (Or.inl rfl) (qr_fitI rfl _) rfl ?_
              refine qy_wS (qw_s σ625 86 36 ((σ625 86 36) + 1)) rfl (fun σ739 e740 => ?_)
              have hI741 : qI σ739 α κ ρ := by rw [e740]; exact qI_s hI627 86 36 rfl (show 0 ≤ ((σ625 86 36) + 1) ∧ ((σ625 86 36) + 1) ≤ 120 by omega)
              have hF742 : qFr [(86, 36), (86, 38), (86, 39)] [] σ α σ739 α := by rw [e740]; exact qFr_s hF628 86 36 _ (by decide)
              refine qr_aload_n 56 rfl (qm_gk g622 (by decide) (Or.inl (by decide))) rfl ?_
              have hs743 : 0 ≤ σ739 86 36 ∧ σ739 86 36 ≤ 120 := hI741.1 86 36
              have hs744 : σ739 86 36 = ((σ625 86 36) + 1) := (congrFun (congrFun e740 86) 36).trans rfl
              have hs745 : 0 ≤ σ739 86 37 ∧ σ739 86 37 ≤ 120 := hI741.1 86 37
              have hs746 : σ739 86 37 = (σ 86 37) := (congrFun (congrFun e740 86) 37).trans ((hk630).trans rfl)
              have hs747 : (-1) ≤ σ739 86 38 ∧ σ739 86 38 ≤ 120 := hI741.1 86 38
              have hs748 : σ739 86 38 = (σ625 86 38) := (congrFun (congrFun e740 86) 38).trans rfl
              have hs749 : 0 ≤ σ739 86 39 ∧ σ739 86 39 ≤ 6 := hI741.1 86 39
              have hs750 : σ739 86 39 = (σ625 86 39) := (congrFun (congrFun e740 86) 39).trans rfl
              refine qr_callN 59 rfl rfl rfl (ihC hI741 (by omega) (by omega) (by omega)) ?_
              have hs754 : 0 ≤ σ739 86 36 ∧ σ739 86 36 ≤ 120 := hI741.1 86 36
              have hs755 : σ739 86 36 = ((σ625 86 36) + 1) := (congrFun (congrFun e740 86) 36).trans rfl
              have hs756 : 0 ≤ σ739 86 37 ∧ σ739 86 37 ≤ 120 := hI741.1 86 37
              have hs757 : σ739 86 37 = (σ 86 37) := (congrFun (congrFun e740 86) 37).trans ((hk630).trans rfl)
              have hs758 : 0 ≤ σ739 86 39 ∧ σ739 86 39 ≤ 6 := hI741.1 86 39
              have hs759 : σ739 86 39 = (σ625 86 39) := (congrFun (congrFun e740 86) 39).trans rfl
              rintro _ _ ⟨σ760, rfl, hI761, hG762, v751, rfl, hv751, hp752, hx753⟩
              have hF763 : qFr [(86, 36), (86, 38), (86, 39)] [] σ α σ760 α := qFr_t hF742 hG762 (by decide) (by decide)
              have hs764 : 0 ≤ σ760 86 36 ∧ σ760 86 36 ≤ 120 := hI761.1 86 36
              have hs765 : (-1) ≤ σ760 86 38 ∧ σ760 86 38 ≤ 120 := hI761.1 86 38
              have hs766 : 0 ≤ σ760 86 39 ∧ σ760 86 39 ≤ 6 := hI761.1 86 39
              rw [hF742.1 86 37 (by decide), (show σ739 86 36 = ((σ625 86 36) + 1) from (congrFun (congrFun e740 86) 36).trans rfl), (show σ739 86 39 = (σ625 86 39) from (congrFun (congrFun e740 86) 39).trans rfl)] at hp752
              rw [hF742.1 86 35 (by decide), hF742.1 86 37 (by decide), (show σ739 86 36 = ((σ625 86 36) + 1) from (congrFun (congrFun e740 86) 36).trans rfl)] at hx753
              show qr_W (qe L xs vb) (d + 1) qx_e217 _ (59, _, [.int (qz v751)], qw σ760 α κ ρ, 0, 0)
              refine qr_istore_n _ 60 rfl (by decide) rfl rfl ?_
              refine qr_iload_n 61 rfl (qm_gk (qm_ge _ _ _) (by decide) (Or.inr rfl)) rfl ?_
              refine qr_if_eq 70 64 rfl rfl rfl (by omega) (fun h767 => ?_) (fun h => False.elim (by omega))
              refine qr_iload_n 71 rfl (qm_gk (qm_gk g623 (by decide) (Or.inr rfl)) (by decide) (Or.inl (by decide))) rfl ?_
              refine qr_iload_n 72 rfl (qm_ge _ _ _) rfl ?_
              refine qr_isub 73 rfl rfl ?_
              refine qy_canE (fun v768 hv768 hev768 => ?_)
              refine qr_istore_n _ 74 rfl (by decide) rfl rfl ?_
              refine qr_goto 5 rfl rfl ?_
              exact ih635 _ v768 σ760 (by omega) (qm_gk (qm_gk (qm_gk g622 (by decide) (Or.inl (by decide))) (by decide) (Or.inl (by decide))) (by decide) (Or.inr rfl)) (qm_ge _ _ _) (by omega) hI761 hF763 ((hG762.1 86 35 (by decide)).trans ((congrFun (congrFun e740 86) 35).trans ((hk629).trans rfl))) ((hG762.1 86 37 (by decide)).trans ((congrFun (congrFun e740 86) 37).trans ((hk630).trans rfl))) (by have hlo := qtx_lo_c (qtx_c (qtT (α 106) (α 107) (σ 86 35)) (σ 86 37) (σ625 86 36)); have hi : qLI (qtT (α 106) (α 107) (σ 86 35)) (σ 86 37) (qtx_lv (qtT (α 106) (α 107) (σ 86 35)) (σ 86 37) (fun b => qtx_on (qtT (α 106) (α 107) (σ 86 35)) (σ 86 37) (α 109) ro b) 1) 3 ((qtx_lv (qtT (α 106) (α 107) (σ 86 35)) (σ 86 37) (fun b => qtx_on (qtT (α 106) (α 107) (σ 86 35)) (σ 86 37) (α 109) ro b) (1 + 1)) (σ 86 36)) u624 (σ625 86 36) (-1) := (by have h9 := hx632; rwa [show σ625 86 38 = -1 by omega] at h9); exact qLI_s hi (by omega) (by decide) (by omega) hx753 (by omega) (fun _ => qap_sub (by omega) hev768 (by omega))) (by omega)
            · skip
              refine qr_iconst 40 rfl rfl ?_
              refine qr_goto 44 rfl rfl ?_
              refine qr_istore_n _ 45 rfl (by decide) rfl rfl ?_
              refine qr_aload_n 46 rfl (qm_gk g622 (by decide) (Or.inl (by decide))) rfl ?_
              refine qr_dup 47 rfl rfl rfl ?_
              refine qr_get 50 rfl rfl rfl (by decide) rfl ?_
              refine qr_iconst 51 rfl rfl ?_
              refine qr_iadd 52 rfl rfl ?_
              refine qr_put 55 rfl (by decide) rfl (Nat.le_of_ble_eq_true rfl) (Nat.le_of_ble_eq_true rfl) (Or.inl rfl) (qr_fitI rfl _) rfl ?_
              refine qy_wS (qw_s σ625 86 36 ((σ625 86 36) + 1)) rfl (fun σ769 e770 => ?_)
              have hI771 : qI σ769 α κ ρ := by rw [e770]; exact qI_s hI627 86 36 rfl (show 0 ≤ ((σ625 86 36) + 1) ∧ ((σ625 86 36) + 1) ≤ 120 by omega)
              have hF772 : qFr [(86, 36), (86, 38), (86, 39)] [] σ α σ769 α := by rw [e770]; exact qFr_s hF628 86 36 _ (by decide)
              refine qr_aload_n 56 rfl (qm_gk g622 (by decide) (Or.inl (by decide))) rfl ?_
              have hs773 : 0 ≤ σ769 86 36 ∧ σ769 86 36 ≤ 120 := hI771.1 86 36
              have hs774 : σ769 86 36 = ((σ625 86 36) + 1) := (congrFun (congrFun e770 86) 36).trans rfl
              have hs775 : 0 ≤ σ769 86 37 ∧ σ769 86 37 ≤ 120 := hI771.1 86 37
              have hs776 : σ769 86 37 = (σ 86 37) := (congrFun (congrFun e770 86) 37).trans ((hk630).trans rfl)
              have hs777 : (-1) ≤ σ769 86 38 ∧ σ769 86 38 ≤ 120 := hI771.1 86 38
              have hs778 : σ769 86 38 = (σ625 86 38) := (congrFun (congrFun e770 86) 38).trans rfl
              have hs779 : 0 ≤ σ769 86 39 ∧ σ769 86 39 ≤ 6 := hI771.1 86 39
              have hs780 : σ769 86 39 = (σ625 86 39) := (congrFun (congrFun e770 86) 39).trans rfl
              refine qr_callN 59 rfl rfl rfl (ihC hI771 (by omega) (by omega) (by omega)) ?_
              have hs784 : 0 ≤ σ769 86 36 ∧ σ769 86 36 ≤ 120 := hI771.1 86 36
              have hs785 : σ769 86 36 = ((σ625 86 36) + 1) := (congrFun (congrFun e770 86) 36).trans rfl
              have hs786 : 0 ≤ σ769 86 37 ∧ σ769 86 37 ≤ 120 := hI771.1 86 37
              have hs787 : σ769 86 37 = (σ 86 37) := (congrFun (congrFun e770 86) 37).trans ((hk630).trans rfl)
              have hs788 : 0 ≤ σ769 86 39 ∧ σ769 86 39 ≤ 6 := hI771.1 86 39
              have hs789 : σ769 86 39 = (σ625 86 39) := (congrFun (congrFun e770 86) 39).trans rfl
              rintro _ _ ⟨σ790, rfl, hI791, hG792, v781, rfl, hv781, hp782, hx783⟩
              have hF793 : qFr [(86, 36), (86, 38), (86, 39)] [] σ α σ790 α := qFr_t hF772 hG792 (by decide) (by decide)
              have hs794 : 0 ≤ σ790 86 36 ∧ σ790 86 36 ≤ 120 := hI791.1 86 36
              have hs795 : (-1) ≤ σ790 86 38 ∧ σ790 86 38 ≤ 120 := hI791.1 86 38
              have hs796 : 0 ≤ σ790 86 39 ∧ σ790 86 39 ≤ 6 := hI791.1 86 39
              rw [hF772.1 86 37 (by decide), (show σ769 86 36 = ((σ625 86 36) + 1) from (congrFun (congrFun e770 86) 36).trans rfl), (show σ769 86 39 = (σ625 86 39) from (congrFun (congrFun e770 86) 39).trans rfl)] at hp782
              rw [hF772.1 86 35 (by decide), hF772.1 86 37 (by decide), (show σ769 86 36 = ((σ625 86 36) + 1) from (congrFun (congrFun e770 86) 36).trans rfl)] at hx783
              show qr_W (qe L xs vb) (d + 1) qx_e217 _ (59, _, [.int (qz v781)], qw σ790 α κ ρ, 0, 0)
              refine qr_istore_n _ 60 rfl (by decide) rfl rfl ?_
              refine qr_iload_n 61 rfl (qm_gk (qm_ge _ _ _) (by decide) (Or.inr rfl)) rfl ?_
              refine qr_if_eq 70 64 rfl rfl rfl (by omega) (fun h => False.elim (by omega)) (fun h797 => ?_)
              refine qr_iload_n 65 rfl (qm_gk (qm_gk g623 (by decide) (Or.inr rfl)) (by decide) (Or.inl (by decide))) rfl ?_
              refine qr_iload_n 66 rfl (qm_ge _ _ _) rfl ?_
              refine qr_iadd 67 rfl rfl ?_
              refine qy_canE (fun v798 hv798 hev798 => ?_)
              refine qr_goto 73 rfl rfl ?_
              refine qr_istore_n _ 74 rfl (by decide) rfl rfl ?_
              refine qr_goto 5 rfl rfl ?_
              exact ih635 _ v798 σ790 (by omega) (qm_gk (qm_gk (qm_gk g622 (by decide) (Or.inl (by decide))) (by decide) (Or.inl (by decide))) (by decide) (Or.inr rfl)) (qm_ge _ _ _) (by omega) hI791 hF793 ((hG792.1 86 35 (by decide)).trans ((congrFun (congrFun e770 86) 35).trans ((hk629).trans rfl))) ((hG792.1 86 37 (by decide)).trans ((congrFun (congrFun e770 86) 37).trans ((hk630).trans rfl))) (by have hlo := qtx_lo_c (qtx_c (qtT (α 106) (α 107) (σ 86 35)) (σ 86 37) (σ625 86 36)); have hi : qLI (qtT (α 106) (α 107) (σ 86 35)) (σ 86 37) (qtx_lv (qtT (α 106) (α 107) (σ 86 35)) (σ 86 37) (fun b => qtx_on (qtT (α 106) (α 107) (σ 86 35)) (σ 86 37) (α 109) ro b) 1) 3 ((qtx_lv (qtT (α 106) (α 107) (σ 86 35)) (σ 86 37) (fun b => qtx_on (qtT (α 106) (α 107) (σ 86 35)) (σ 86 37) (α 109) ro b) (1 + 1)) (σ 86 36)) u624 (σ625 86 36) (-1) := (by have h9 := hx632; rwa [show σ625 86 38 = -1 by omega] at h9); exact qLI_s hi (by omega) (by decide) (by omega) hx783 (by omega) (fun _ => qap_add (by omega) hev798 (by omega))) (by omega)
  exact hL634 ((((120 - σ11 86 36).toNat : Int) + 1 : Int)).toNat _ v5 σ11 (by omega) rfl rfl (by omega) hI12 hF14 ((hG13.1 86 35 (by decide)).trans rfl) ((hG13.1 86 37 (by decide)).trans rfl) (by exact qLI_0 hx7 ⟨by omega, by omega⟩) (by omega)

set_option maxHeartbeats 4000000 in
set_option maxRecDepth 20000 in
/-- OneRoofModel.compared -/
theorem sf_216_86x {L : Nat} {xs : Nat → Int} {vb : Bool} {d : Nat} {σ α : Nat → Nat → Int} {κ : Nat → Option Nat} {ρ : Nat} {ro : Nat} (ihC : ∀ {σ α : Nat → Nat → Int}, qI σ α κ ρ → σ 86 36 ≤ σ 86 37 → σ 86 38 = -1 → σ 86 39 + (ro : Int) = 6 → qm_T (qe L xs vb) (d + 1) 217 [.ref 86] (qw σ α κ ρ) (fun r w' => ∃ σ', w' = qw σ' α κ ρ ∧ qI σ' α κ ρ ∧ qFr [(86, 36), (86, 38), (86, 39)] [] σ α σ' α ∧ ∃ v : Int, r = some (.int (qz v)) ∧ ((-2147483648) ≤ v ∧ v ≤ 2147483647) ∧ (σ 86 36 ≤ σ' 86 36 ∧ σ' 86 36 ≤ σ 86 37 ∧ σ 86 39 ≤ σ' 86 39 ∧ ((σ' 86 38 = -1 ∧ σ' 86 39 = σ 86 39 ∧ σ 86 36 < σ' 86 36) ∨ σ' 86 38 = σ' 86 36)) ∧ qRes ((qtx_lv (qtT (α 106) (α 107) (σ 86 35)) (σ 86 37) (fun b => qtx_on (qtT (α 106) (α 107) (σ 86 35)) (σ 86 37) (α 109) ro b) 2) (σ 86 36)) v (σ' 86 36) (σ' 86 38))) (hI : qI σ α κ ρ) (p0 : σ 86 36 ≤ σ 86 37) (p1 : σ 86 38 = -1) (p2 : σ 86 39 + (ro : Int) = 6) : qm_T (qe L xs vb) (d + 2) 216 [.ref 86] (qw σ α κ ρ) (fun r w' => ∃ σ', w' = qw σ' α κ ρ ∧ qI σ' α κ ρ ∧ qFr [(86, 36), (86, 38), (86, 39)] [] σ α σ' α ∧ ∃ v : Int, r = some (.int (qz v)) ∧ ((-2147483648) ≤ v ∧ v ≤ 2147483647) ∧ (σ 86 36 ≤ σ' 86 36 ∧ σ' 86 36 ≤ σ 86 37 ∧ σ 86 39 ≤ σ' 86 39 ∧ ((σ' 86 38 = -1 ∧ σ' 86 39 = σ 86 39 ∧ σ 86 36 < σ' 86 36) ∨ σ' 86 38 = σ' 86 36)) ∧ qRes ((qtx_lv (qtT (α 106) (α 107) (σ 86 35)) (σ 86 37) (fun b => qtx_on (qtT (α 106) (α 107) (σ 86 35)) (σ 86 37) (α 109) ro b) (2 + 1)) (σ 86 36)) v (σ' 86 36) (σ' 86 38)) := by
  refine qr_start (d := d + 1) qv_e216 (Nat.le_of_ble_eq_true rfl) ?_
  show qr_W (qe L xs vb) (d + 1) qx_e216 _ (0, [(0, .ref 86)], [], _, 0, 0)
  have hF0 := qFr_rf [(86, 36), (86, 38), (86, 39)] [] σ α
  have hz86_36 : 0 ≤ σ 86 36 ∧ σ 86 36 ≤ 120 := hI.1 86 36
  have hz86_37 : 0 ≤ σ 86 37 ∧ σ 86 37 ≤ 120 := hI.1 86 37
  have hz86_39 : 0 ≤ σ 86 39 ∧ σ 86 39 ≤ 6 := hI.1 86 39
  have hz86_38 : (-1) ≤ σ 86 38 ∧ σ 86 38 ≤ 120 := hI.1 86 38
  have hz86_35 : (-1) ≤ σ 86 35 ∧ σ 86 35 ≤ 120 := hI.1 86 35
  refine qr_aload_n 1 rfl rfl rfl ?_
  have hs1 : 0 ≤ σ 86 36 ∧ σ 86 36 ≤ 120 := hI.1 86 36
  have hs2 : 0 ≤ σ 86 37 ∧ σ 86 37 ≤ 120 := hI.1 86 37
  have hs3 : (-1) ≤ σ 86 38 ∧ σ 86 38 ≤ 120 := hI.1 86 38
  have hs4 : 0 ≤ σ 86 39 ∧ σ 86 39 ≤ 6 := hI.1 86 39
  refine qr_callN 4 rfl rfl rfl (ihC hI (by omega) (by omega) (by omega)) ?_
  have hs8 : 0 ≤ σ 86 36 ∧ σ 86 36 ≤ 120 := hI.1 86 36
  have hs9 : 0 ≤ σ 86 37 ∧ σ 86 37 ≤ 120 := hI.1 86 37
  have hs10 : 0 ≤ σ 86 39 ∧ σ 86 39 ≤ 6 := hI.1 86 39
  rintro _ _ ⟨σ11, rfl, hI12, hG13, v5, rfl, hv5, hp6, hx7⟩
  have hF14 : qFr [(86, 36), (86, 38), (86, 39)] [] σ α σ11 α := qFr_t hF0 hG13 (by decide) (by decide)
  have hs15 : 0 ≤ σ11 86 36 ∧ σ11 86 36 ≤ 120 := hI12.1 86 36
  have hs16 : (-1) ≤ σ11 86 38 ∧ σ11 86 38 ≤ 120 := hI12.1 86 38
  have hs17 : 0 ≤ σ11 86 39 ∧ σ11 86 39 ≤ 6 := hI12.1 86 39
  show qr_W (qe L xs vb) (d + 1) qx_e216 _ (4, _, [.int (qz v5)], qw σ11 α κ ρ, 0, 0)
  refine qr_istore_n _ 5 rfl (by decide) rfl rfl ?_
  refine qr_aload_n 6 rfl rfl rfl ?_
  refine qr_callN 9 rfl rfl rfl (sf_220_86x (d := d + 0) hI12 ) ?_
  have hs20 : (-1) ≤ σ11 86 35 ∧ σ11 86 35 ≤ 120 := hI12.1 86 35
  have hs21 : σ11 86 35 = (σ 86 35) := (hG13.1 86 35 (by decide)).trans rfl
  have hs22 : 0 ≤ σ11 86 36 ∧ σ11 86 36 ≤ 120 := hI12.1 86 36
  have hs23 : 0 ≤ σ11 86 37 ∧ σ11 86 37 ≤ 120 := hI12.1 86 37
  have hs24 : σ11 86 37 = (σ 86 37) := (hG13.1 86 37 (by decide)).trans rfl
  rintro _ _ ⟨rfl, v18, rfl, hv18, hp19⟩
  rw [hF14.1 86 35 (by decide), hF14.1 86 37 (by decide)] at hp19
  show qr_W (qe L xs vb) (d + 1) qx_e216 _ (9, _, [.int (qz v18)], qw σ11 α κ ρ, 0, 0)
  refine qr_istore_n _ 10 rfl (by decide) rfl rfl ?_
  refine qr_aload_n 11 rfl rfl rfl ?_
  refine qr_get 14 rfl rfl rfl (by decide) rfl ?_
  refine qr_if_ge 35 17 rfl rfl rfl (by omega) (fun h25 => ?_) (fun h25 => ?_)
  · skip
    refine qr_iload_n 36 rfl rfl rfl ?_
    refine qr_retI rfl rfl (by decide) (by decide) ?_
    have hw26 : σ11 86 36 = (σ11 86 36) := rfl
    have hw27 : σ11 86 38 = (σ11 86 38) := rfl
    have hw28 : σ11 86 39 = (σ11 86 39) := rfl
    exact ⟨_, rfl, hI12, hF14, v5, rfl, by omega, by omega, (by exact qC1_e (l := 2) hx7 (by omega) (fun _ => by have hlo := qtx_lo_c (qtx_c (qtT (α 106) (α 107) (σ 86 35)) (σ 86 37) (σ11 86 36)); omega))⟩
  · skip
    refine qr_iload_n 18 rfl rfl rfl ?_
    refine qr_bipush 20 rfl (by decide) rfl ?_
    refine qr_icmp_eq 37 23 rfl rfl rfl (by omega) (by omega) (fun h29 => ?_) (fun h29 => ?_)
    · skip
      refine qr_aload_n 38 rfl rfl rfl ?_
      refine qr_dup 39 rfl rfl rfl ?_
      refine qr_get 42 rfl rfl rfl (by decide) rfl ?_
      refine qr_iconst 43 rfl rfl ?_
      refine qr_iadd 44 rfl rfl ?_
      refine qr_put 47 rfl (by decide) rfl (Nat.le_of_ble_eq_true rfl) (Nat.le_of_ble_eq_true rfl) (Or.inl rfl) (qr_fitI rfl _) rfl ?_
      refine qy_wS (qw_s σ11 86 36 ((σ11 86 36) + 1)) rfl (fun σ30 e31 => ?_)
      have hI32 : qI σ30 α κ ρ := by rw [e31]; exact qI_s hI12 86 36 rfl (show 0 ≤ ((σ11 86 36) + 1) ∧ ((σ11 86 36) + 1) ≤ 120 by omega)
      have hF33 : qFr [(86, 36), (86, 38), (86, 39)] [] σ α σ30 α := by rw [e31]; exact qFr_s hF14 86 36 _ (by decide)
      refine qr_aload_n 48 rfl rfl rfl ?_
      have hs34 : 0 ≤ σ30 86 36 ∧ σ30 86 36 ≤ 120 := hI32.1 86 36
      have hs35 : σ30 86 36 = ((σ11 86 36) + 1) := (congrFun (congrFun e31 86) 36).trans rfl
      have hs36 : 0 ≤ σ30 86 37 ∧ σ30 86 37 ≤ 120 := hI32.1 86 37
      have hs37 : σ30 86 37 = (σ 86 37) := (congrFun (congrFun e31 86) 37).trans ((hG13.1 86 37 (by decide)).trans rfl)
      have hs38 : (-1) ≤ σ30 86 38 ∧ σ30 86 38 ≤ 120 := hI32.1 86 38
      have hs39 : σ30 86 38 = (σ11 86 38) := (congrFun (congrFun e31 86) 38).trans rfl
      have hs40 : 0 ≤ σ30 86 39 ∧ σ30 86 39 ≤ 6 := hI32.1 86 39
      have hs41 : σ30 86 39 = (σ11 86 39) := (congrFun (congrFun e31 86) 39).trans rfl
      refine qr_callN 51 rfl rfl rfl (ihC hI32 (by omega) (by omega) (by omega)) ?_
      have hs45 : 0 ≤ σ30 86 36 ∧ σ30 86 36 ≤ 120 := hI32.1 86 36
      have hs46 : σ30 86 36 = ((σ11 86 36) + 1) := (congrFun (congrFun e31 86) 36).trans rfl
      have hs47 : 0 ≤ σ30 86 37 ∧ σ30 86 37 ≤ 120 := hI32.1 86 37
      have hs48 : σ30 86 37 = (σ 86 37) := (congrFun (congrFun e31 86) 37).trans ((hG13.1 86 37 (by decide)).trans rfl)
      have hs49 : 0 ≤ σ30 86 39 ∧ σ30 86 39 ≤ 6 := hI32.1 86 39
      have hs50 : σ30 86 39 = (σ11 86 39) := (congrFun (congrFun e31 86) 39).trans rfl
      rintro _ _ ⟨σ51, rfl, hI52, hG53, v42, rfl, hv42, hp43, hx44⟩
      have hF54 : qFr [(86, 36), (86, 38), (86, 39)] [] σ α σ51 α := qFr_t hF33 hG53 (by decide) (by decide)
      have hs55 : 0 ≤ σ51 86 36 ∧ σ51 86 36 ≤ 120 := hI52.1 86 36
      have hs56 : (-1) ≤ σ51 86 38 ∧ σ51 86 38 ≤ 120 := hI52.1 86 38
      have hs57 : 0 ≤ σ51 86 39 ∧ σ51 86 39 ≤ 6 := hI52.1 86 39
      rw [hF33.1 86 37 (by decide), (show σ30 86 36 = ((σ11 86 36) + 1) from (congrFun (congrFun e31 86) 36).trans rfl), (show σ30 86 39 = (σ11 86 39) from (congrFun (congrFun e31 86) 39).trans rfl)] at hp43
      rw [hF33.1 86 35 (by decide), hF33.1 86 37 (by decide), (show σ30 86 36 = ((σ11 86 36) + 1) from (congrFun (congrFun e31 86) 36).trans rfl)] at hx44
      show qr_W (qe L xs vb) (d + 1) qx_e216 _ (51, _, [.int (qz v42)], qw σ51 α κ ρ, 0, 0)
      refine qr_istore_n _ 52 rfl (by decide) rfl rfl ?_
      refine qr_iload_n 53 rfl rfl rfl ?_
      refine qr_bipush 55 rfl (by decide) rfl ?_
      refine qr_icmp_ne 66 58 rfl rfl rfl (by omega) (by omega) (fun h => False.elim (by omega)) (fun h58 => ?_)
      refine qr_iload_n 59 rfl rfl rfl ?_
      refine qr_iload_n 60 rfl rfl rfl ?_
      refine qr_icmp_ge 89 63 rfl rfl rfl (by omega) (by omega) (fun h59 => ?_) (fun h59 => ?_)
      · skip
        refine qr_iconst 90 rfl rfl ?_
        refine qr_retI rfl rfl (by decide) (by decide) ?_
        have hw60 : σ51 86 36 = (σ51 86 36) := rfl
        have hw61 : σ51 86 38 = (σ51 86 38) := rfl
        have hw62 : σ51 86 39 = (σ51 86 39) := rfl
        exact ⟨_, rfl, hI52, hF54, 0, rfl, by omega, by omega, (by have hlo := qtx_lo_c (qtx_c (qtT (α 106) (α 107) (σ 86 35)) (σ 86 37) (σ11 86 36)); have hf : σ11 86 38 = -1 := (by omega); have hi := hx7; rw [hf] at hi; exact qC1_s (l := 2) hi (by omega) (by omega) hx44 (by omega) (fun _ => qap_cmp (by omega)))⟩
      · skip
        refine qr_goto 85 rfl rfl ?_
        refine qr_iconst 86 rfl rfl ?_
        refine qr_goto 90 rfl rfl ?_
        refine qr_retI rfl rfl (by decide) (by decide) ?_
        have hw63 : σ51 86 36 = (σ51 86 36) := rfl
        have hw64 : σ51 86 38 = (σ51 86 38) := rfl
        have hw65 : σ51 86 39 = (σ51 86 39) := rfl
        exact ⟨_, rfl, hI52, hF54, 1, rfl, by omega, by omega, (by have hlo := qtx_lo_c (qtx_c (qtT (α 106) (α 107) (σ 86 35)) (σ 86 37) (σ11 86 36)); have hf : σ11 86 38 = -1 := (by omega); have hi := hx7; rw [hf] at hi; exact qC1_s (l := 2) hi (by omega) (by omega) hx44 (by omega) (fun _ => qap_cmp (by omega)))⟩
    · skip
      refine qr_iload_n 24 rfl rfl rfl ?_
      refine qr_bipush 26 rfl (by decide) rfl ?_
      refine qr_icmp_eq 37 29 rfl rfl rfl (by omega) (by omega) (fun h66 => ?_) (fun h66 => ?_)
      · skip
        refine qr_aload_n 38 rfl rfl rfl ?_
        refine qr_dup 39 rfl rfl rfl ?_
        refine qr_get 42 rfl rfl rfl (by decide) rfl ?_
        refine qr_iconst 43 rfl rfl ?_
        refine qr_iadd 44 rfl rfl ?_
        refine qr_put 47 rfl (by decide) rfl (Nat.le_of_ble_eq_true rfl) (Nat.le_of_ble_eq_true rfl) (Or.inl rfl) (qr_fitI rfl _) rfl ?_
        refine qy_wS (qw_s σ11 86 36 ((σ11 86 36) + 1)) rfl (fun σ67 e68 => ?_)
        have hI69 : qI σ67 α κ ρ := by rw [e68]; exact qI_s hI12 86 36 rfl (show 0 ≤ ((σ11 86 36) + 1) ∧ ((σ11 86 36) + 1) ≤ 120 by omega)
        have hF70 : qFr [(86, 36), (86, 38), (86, 39)] [] σ α σ67 α := by rw [e68]; exact qFr_s hF14 86 36 _ (by decide)
        refine qr_aload_n 48 rfl rfl rfl ?_
        have hs71 : 0 ≤ σ67 86 36 ∧ σ67 86 36 ≤ 120 := hI69.1 86 36
        have hs72 : σ67 86 36 = ((σ11 86 36) + 1) := (congrFun (congrFun e68 86) 36).trans rfl
        have hs73 : 0 ≤ σ67 86 37 ∧ σ67 86 37 ≤ 120 := hI69.1 86 37
        have hs74 : σ67 86 37 = (σ 86 37) := (congrFun (congrFun e68 86) 37).trans ((hG13.1 86 37 (by decide)).trans rfl)
        have hs75 : (-1) ≤ σ67 86 38 ∧ σ67 86 38 ≤ 120 := hI69.1 86 38
        have hs76 : σ67 86 38 = (σ11 86 38) := (congrFun (congrFun e68 86) 38).trans rfl
        have hs77 : 0 ≤ σ67 86 39 ∧ σ67 86 39 ≤ 6 := hI69.1 86 39
        have hs78 : σ67 86 39 = (σ11 86 39) := (congrFun (congrFun e68 86) 39).trans rfl
        refine qr_callN 51 rfl rfl rfl (ihC hI69 (by omega) (by omega) (by omega)) ?_
        have hs82 : 0 ≤ σ67 86 36 ∧ σ67 86 36 ≤ 120 := hI69.1 86 36
        have hs83 : σ67 86 36 = ((σ11 86 36) + 1) := (congrFun (congrFun e68 86) 36).trans rfl
        have hs84 : 0 ≤ σ67 86 37 ∧ σ67 86 37 ≤ 120 := hI69.1 86 37
        have hs85 : σ67 86 37 = (σ 86 37) := (congrFun (congrFun e68 86) 37).trans ((hG13.1 86 37 (by decide)).trans rfl)
        have hs86 : 0 ≤ σ67 86 39 ∧ σ67 86 39 ≤ 6 := hI69.1 86 39
        have hs87 : σ67 86 39 = (σ11 86 39) := (congrFun (congrFun e68 86) 39).trans rfl
        rintro _ _ ⟨σ88, rfl, hI89, hG90, v79, rfl, hv79, hp80, hx81⟩
        have hF91 : qFr [(86, 36), (86, 38), (86, 39)] [] σ α σ88 α := qFr_t hF70 hG90 (by decide) (by decide)
        have hs92 : 0 ≤ σ88 86 36 ∧ σ88 86 36 ≤ 120 := hI89.1 86 36
        have hs93 : (-1) ≤ σ88 86 38 ∧ σ88 86 38 ≤ 120 := hI89.1 86 38
        have hs94 : 0 ≤ σ88 86 39 ∧ σ88 86 39 ≤ 6 := hI89.1 86 39
        rw [hF70.1 86 37 (by decide), (show σ67 86 36 = ((σ11 86 36) + 1) from (congrFun (congrFun e68 86) 36).trans rfl), (show σ67 86 39 = (σ11 86 39) from (congrFun (congrFun e68 86) 39).trans rfl)] at hp80
        rw [hF70.1 86 35 (by decide), hF70.1 86 37 (by decide), (show σ67 86 36 = ((σ11 86 36) + 1) from (congrFun (congrFun e68 86) 36).trans rfl)] at hx81
        show qr_W (qe L xs vb) (d + 1) qx_e216 _ (51, _, [.int (qz v79)], qw σ88 α κ ρ, 0, 0)
        refine qr_istore_n _ 52 rfl (by decide) rfl rfl ?_
        refine qr_iload_n 53 rfl rfl rfl ?_
        refine qr_bipush 55 rfl (by decide) rfl ?_
        refine qr_icmp_ne 66 58 rfl rfl rfl (by omega) (by omega) (fun h95 => ?_) (fun h => False.elim (by omega))
        refine qr_iload_n 67 rfl rfl rfl ?_
        refine qr_bipush 69 rfl (by decide) rfl ?_
        refine qr_icmp_ne 80 72 rfl rfl rfl (by omega) (by omega) (fun h => False.elim (by omega)) (fun h96 => ?_)
        refine qr_iload_n 73 rfl rfl rfl ?_
        refine qr_iload_n 74 rfl rfl rfl ?_
        refine qr_icmp_ne 89 77 rfl rfl rfl (by omega) (by omega) (fun h97 => ?_) (fun h97 => ?_)
        · skip
          refine qr_iconst 90 rfl rfl ?_
          refine qr_retI rfl rfl (by decide) (by decide) ?_
          have hw98 : σ88 86 36 = (σ88 86 36) := rfl
          have hw99 : σ88 86 38 = (σ88 86 38) := rfl
          have hw100 : σ88 86 39 = (σ88 86 39) := rfl
          exact ⟨_, rfl, hI89, hF91, 0, rfl, by omega, by omega, (by have hlo := qtx_lo_c (qtx_c (qtT (α 106) (α 107) (σ 86 35)) (σ 86 37) (σ11 86 36)); have hf : σ11 86 38 = -1 := (by omega); have hi := hx7; rw [hf] at hi; exact qC1_s (l := 2) hi (by omega) (by omega) hx81 (by omega) (fun _ => qap_cmp (by omega)))⟩
        · skip
          refine qr_goto 85 rfl rfl ?_
          refine qr_iconst 86 rfl rfl ?_
          refine qr_goto 90 rfl rfl ?_
          refine qr_retI rfl rfl (by decide) (by decide) ?_
          have hw101 : σ88 86 36 = (σ88 86 36) := rfl
          have hw102 : σ88 86 38 = (σ88 86 38) := rfl
          have hw103 : σ88 86 39 = (σ88 86 39) := rfl
          exact ⟨_, rfl, hI89, hF91, 1, rfl, by omega, by omega, (by have hlo := qtx_lo_c (qtx_c (qtT (α 106) (α 107) (σ 86 35)) (σ 86 37) (σ11 86 36)); have hf : σ11 86 38 = -1 := (by omega); have hi := hx7; rw [hf] at hi; exact qC1_s (l := 2) hi (by omega) (by omega) hx81 (by omega) (fun _ => qap_cmp (by omega)))⟩
      · skip
        refine qr_iload_n 30 rfl rfl rfl ?_
        refine qr_bipush 32 rfl (by decide) rfl ?_
        refine qr_icmp_eq 37 35 rfl rfl rfl (by omega) (by omega) (fun h104 => ?_) (fun h104 => ?_)
        · skip
          refine qr_aload_n 38 rfl rfl rfl ?_
          refine qr_dup 39 rfl rfl rfl ?_
          refine qr_get 42 rfl rfl rfl (by decide) rfl ?_
          refine qr_iconst 43 rfl rfl ?_
          refine qr_iadd 44 rfl rfl ?_
          refine qr_put 47 rfl (by decide) rfl (Nat.le_of_ble_eq_true rfl) (Nat.le_of_ble_eq_true rfl) (Or.inl rfl) (qr_fitI rfl _) rfl ?_
          refine qy_wS (qw_s σ11 86 36 ((σ11 86 36) + 1)) rfl (fun σ105 e106 => ?_)
          have hI107 : qI σ105 α κ ρ := by rw [e106]; exact qI_s hI12 86 36 rfl (show 0 ≤ ((σ11 86 36) + 1) ∧ ((σ11 86 36) + 1) ≤ 120 by omega)
          have hF108 : qFr [(86, 36), (86, 38), (86, 39)] [] σ α σ105 α := by rw [e106]; exact qFr_s hF14 86 36 _ (by decide)
          refine qr_aload_n 48 rfl rfl rfl ?_
          have hs109 : 0 ≤ σ105 86 36 ∧ σ105 86 36 ≤ 120 := hI107.1 86 36
          have hs110 : σ105 86 36 = ((σ11 86 36) + 1) := (congrFun (congrFun e106 86) 36).trans rfl
          have hs111 : 0 ≤ σ105 86 37 ∧ σ105 86 37 ≤ 120 := hI107.1 86 37
          have hs112 : σ105 86 37 = (σ 86 37) := (congrFun (congrFun e106 86) 37).trans ((hG13.1 86 37 (by decide)).trans rfl)
          have hs113 : (-1) ≤ σ105 86 38 ∧ σ105 86 38 ≤ 120 := hI107.1 86 38
          have hs114 : σ105 86 38 = (σ11 86 38) := (congrFun (congrFun e106 86) 38).trans rfl
          have hs115 : 0 ≤ σ105 86 39 ∧ σ105 86 39 ≤ 6 := hI107.1 86 39
          have hs116 : σ105 86 39 = (σ11 86 39) := (congrFun (congrFun e106 86) 39).trans rfl
          refine qr_callN 51 rfl rfl rfl (ihC hI107 (by omega) (by omega) (by omega)) ?_
          have hs120 : 0 ≤ σ105 86 36 ∧ σ105 86 36 ≤ 120 := hI107.1 86 36
          have hs121 : σ105 86 36 = ((σ11 86 36) + 1) := (congrFun (congrFun e106 86) 36).trans rfl
          have hs122 : 0 ≤ σ105 86 37 ∧ σ105 86 37 ≤ 120 := hI107.1 86 37
          have hs123 : σ105 86 37 = (σ 86 37) := (congrFun (congrFun e106 86) 37).trans ((hG13.1 86 37 (by decide)).trans rfl)
          have hs124 : 0 ≤ σ105 86 39 ∧ σ105 86 39 ≤ 6 := hI107.1 86 39
          have hs125 : σ105 86 39 = (σ11 86 39) := (congrFun (congrFun e106 86) 39).trans rfl
          rintro _ _ ⟨σ126, rfl, hI127, hG128, v117, rfl, hv117, hp118, hx119⟩
          have hF129 : qFr [(86, 36), (86, 38), (86, 39)] [] σ α σ126 α := qFr_t hF108 hG128 (by decide) (by decide)
          have hs130 : 0 ≤ σ126 86 36 ∧ σ126 86 36 ≤ 120 := hI127.1 86 36
          have hs131 : (-1) ≤ σ126 86 38 ∧ σ126 86 38 ≤ 120 := hI127.1 86 38
          have hs132 : 0 ≤ σ126 86 39 ∧ σ126 86 39 ≤ 6 := hI127.1 86 39
          rw [hF108.1 86 37 (by decide), (show σ105 86 36 = ((σ11 86 36) + 1) from (congrFun (congrFun e106 86) 36).trans rfl), (show σ105 86 39 = (σ11 86 39) from (congrFun (congrFun e106 86) 39).trans rfl)] at hp118
          rw [hF108.1 86 35 (by decide), hF108.1 86 37 (by decide), (show σ105 86 36 = ((σ11 86 36) + 1) from (congrFun (congrFun e106 86) 36).trans rfl)] at hx119
          show qr_W (qe L xs vb) (d + 1) qx_e216 _ (51, _, [.int (qz v117)], qw σ126 α κ ρ, 0, 0)
          refine qr_istore_n _ 52 rfl (by decide) rfl rfl ?_
          refine qr_iload_n 53 rfl rfl rfl ?_
          refine qr_bipush 55 rfl (by decide) rfl ?_
          refine qr_icmp_ne 66 58 rfl rfl rfl (by omega) (by omega) (fun h133 => ?_) (fun h => False.elim (by omega))
          refine qr_iload_n 67 rfl rfl rfl ?_
          refine qr_bipush 69 rfl (by decide) rfl ?_
          refine qr_icmp_ne 80 72 rfl rfl rfl (by omega) (by omega) (fun h134 => ?_) (fun h => False.elim (by omega))
          refine qr_iload_n 81 rfl rfl rfl ?_
          refine qr_iload_n 82 rfl rfl rfl ?_
          refine qr_icmp_le 89 85 rfl rfl rfl (by omega) (by omega) (fun h135 => ?_) (fun h135 => ?_)
          · skip
            refine qr_iconst 90 rfl rfl ?_
            refine qr_retI rfl rfl (by decide) (by decide) ?_
            have hw136 : σ126 86 36 = (σ126 86 36) := rfl
            have hw137 : σ126 86 38 = (σ126 86 38) := rfl
            have hw138 : σ126 86 39 = (σ126 86 39) := rfl
            exact ⟨_, rfl, hI127, hF129, 0, rfl, by omega, by omega, (by have hlo := qtx_lo_c (qtx_c (qtT (α 106) (α 107) (σ 86 35)) (σ 86 37) (σ11 86 36)); have hf : σ11 86 38 = -1 := (by omega); have hi := hx7; rw [hf] at hi; exact qC1_s (l := 2) hi (by omega) (by omega) hx119 (by omega) (fun _ => qap_cmp (by omega)))⟩
          · skip
            refine qr_iconst 86 rfl rfl ?_
            refine qr_goto 90 rfl rfl ?_
            refine qr_retI rfl rfl (by decide) (by decide) ?_
            have hw139 : σ126 86 36 = (σ126 86 36) := rfl
            have hw140 : σ126 86 38 = (σ126 86 38) := rfl
            have hw141 : σ126 86 39 = (σ126 86 39) := rfl
            exact ⟨_, rfl, hI127, hF129, 1, rfl, by omega, by omega, (by have hlo := qtx_lo_c (qtx_c (qtT (α 106) (α 107) (σ 86 35)) (σ 86 37) (σ11 86 36)); have hf : σ11 86 38 = -1 := (by omega); have hi := hx7; rw [hf] at hi; exact qC1_s (l := 2) hi (by omega) (by omega) hx119 (by omega) (fun _ => qap_cmp (by omega)))⟩
        · skip
          refine qr_iload_n 36 rfl rfl rfl ?_
          refine qr_retI rfl rfl (by decide) (by decide) ?_
          have hw142 : σ11 86 36 = (σ11 86 36) := rfl
          have hw143 : σ11 86 38 = (σ11 86 38) := rfl
          have hw144 : σ11 86 39 = (σ11 86 39) := rfl
          exact ⟨_, rfl, hI12, hF14, v5, rfl, by omega, by omega, (by exact qC1_e (l := 2) hx7 (by omega) (fun _ => by have hlo := qtx_lo_c (qtx_c (qtT (α 106) (α 107) (σ 86 35)) (σ 86 37) (σ11 86 36)); omega))⟩

set_option maxHeartbeats 4000000 in
set_option maxRecDepth 20000 in
/-- OneRoofModel.both -/
theorem sf_215_86x {L : Nat} {xs : Nat → Int} {vb : Bool} {d : Nat} {σ α : Nat → Nat → Int} {κ : Nat → Option Nat} {ρ : Nat} {ro : Nat} (ihC : ∀ {σ α : Nat → Nat → Int}, qI σ α κ ρ → σ 86 36 ≤ σ 86 37 → σ 86 38 = -1 → σ 86 39 + (ro : Int) = 6 → qm_T (qe L xs vb) (d + 2) 216 [.ref 86] (qw σ α κ ρ) (fun r w' => ∃ σ', w' = qw σ' α κ ρ ∧ qI σ' α κ ρ ∧ qFr [(86, 36), (86, 38), (86, 39)] [] σ α σ' α ∧ ∃ v : Int, r = some (.int (qz v)) ∧ ((-2147483648) ≤ v ∧ v ≤ 2147483647) ∧ (σ 86 36 ≤ σ' 86 36 ∧ σ' 86 36 ≤ σ 86 37 ∧ σ 86 39 ≤ σ' 86 39 ∧ ((σ' 86 38 = -1 ∧ σ' 86 39 = σ 86 39 ∧ σ 86 36 < σ' 86 36) ∨ σ' 86 38 = σ' 86 36)) ∧ qRes ((qtx_lv (qtT (α 106) (α 107) (σ 86 35)) (σ 86 37) (fun b => qtx_on (qtT (α 106) (α 107) (σ 86 35)) (σ 86 37) (α 109) ro b) 3) (σ 86 36)) v (σ' 86 36) (σ' 86 38))) (hI : qI σ α κ ρ) (p0 : σ 86 36 ≤ σ 86 37) (p1 : σ 86 38 = -1) (p2 : σ 86 39 + (ro : Int) = 6) : qm_T (qe L xs vb) (d + 3) 215 [.ref 86] (qw σ α κ ρ) (fun r w' => ∃ σ', w' = qw σ' α κ ρ ∧ qI σ' α κ ρ ∧ qFr [(86, 36), (86, 38), (86, 39)] [] σ α σ' α ∧ ∃ v : Int, r = some (.int (qz v)) ∧ ((-2147483648) ≤ v ∧ v ≤ 2147483647) ∧ (σ 86 36 ≤ σ' 86 36 ∧ σ' 86 36 ≤ σ 86 37 ∧ σ 86 39 ≤ σ' 86 39 ∧ ((σ' 86 38 = -1 ∧ σ' 86 39 = σ 86 39 ∧ σ 86 36 < σ' 86 36) ∨ σ' 86 38 = σ' 86 36)) ∧ qRes ((qtx_lv (qtT (α 106) (α 107) (σ 86 35)) (σ 86 37) (fun b => qtx_on (qtT (α 106) (α 107) (σ 86 35)) (σ 86 37) (α 109) ro b) (3 + 1)) (σ 86 36)) v (σ' 86 36) (σ' 86 38)) := by
  refine qr_start (d := d + 2) qv_e215 (Nat.le_of_ble_eq_true rfl) ?_
  show qr_W (qe L xs vb) (d + 2) qx_e215 _ (0, [(0, .ref 86)], [], _, 0, 0)
  have hF0 := qFr_rf [(86, 36), (86, 38), (86, 39)] [] σ α
  have hz86_36 : 0 ≤ σ 86 36 ∧ σ 86 36 ≤ 120 := hI.1 86 36
  have hz86_37 : 0 ≤ σ 86 37 ∧ σ 86 37 ≤ 120 := hI.1 86 37
  have hz86_39 : 0 ≤ σ 86 39 ∧ σ 86 39 ≤ 6 := hI.1 86 39
  have hz86_38 : (-1) ≤ σ 86 38 ∧ σ 86 38 ≤ 120 := hI.1 86 38
  have hz86_35 : (-1) ≤ σ 86 35 ∧ σ 86 35 ≤ 120 := hI.1 86 35
  refine qr_aload_n 1 rfl rfl rfl ?_
  have hs1 : 0 ≤ σ 86 36 ∧ σ 86 36 ≤ 120 := hI.1 86 36
  have hs2 : 0 ≤ σ 86 37 ∧ σ 86 37 ≤ 120 := hI.1 86 37
  have hs3 : (-1) ≤ σ 86 38 ∧ σ 86 38 ≤ 120 := hI.1 86 38
  have hs4 : 0 ≤ σ 86 39 ∧ σ 86 39 ≤ 6 := hI.1 86 39
  refine qr_callN 4 rfl rfl rfl (ihC hI (by omega) (by omega) (by omega)) ?_
  have hs8 : 0 ≤ σ 86 36 ∧ σ 86 36 ≤ 120 := hI.1 86 36
  have hs9 : 0 ≤ σ 86 37 ∧ σ 86 37 ≤ 120 := hI.1 86 37
  have hs10 : 0 ≤ σ 86 39 ∧ σ 86 39 ≤ 6 := hI.1 86 39
  rintro _ _ ⟨σ11, rfl, hI12, hG13, v5, rfl, hv5, hp6, hx7⟩
  have hF14 : qFr [(86, 36), (86, 38), (86, 39)] [] σ α σ11 α := qFr_t hF0 hG13 (by decide) (by decide)
  have hs15 : 0 ≤ σ11 86 36 ∧ σ11 86 36 ≤ 120 := hI12.1 86 36
  have hs16 : (-1) ≤ σ11 86 38 ∧ σ11 86 38 ≤ 120 := hI12.1 86 38
  have hs17 : 0 ≤ σ11 86 39 ∧ σ11 86 39 ≤ 6 := hI12.1 86 39
  show qr_W (qe L xs vb) (d + 2) qx_e215 _ (4, _, [.int (qz v5)], qw σ11 α κ ρ, 0, 0)
  refine qr_istore_n _ 5 rfl (by decide) rfl rfl ?_
  have hL198 : ∀ (n : Nat) (ls : qm_L) (u188 : Int) (σ189 : Nat → Nat → Int), ((120 - σ189 86 36).toNat : Int) < (n : Int) → qm_get ls 0 = some (.ref 86) → qm_get ls 1 = some (.int (qz u188)) → ((-2147483648) ≤ u188 ∧ u188 ≤ 2147483647) → qI σ189 α κ ρ → qFr [(86, 36), (86, 38), (86, 39)] [] σ α σ189 α → σ189 86 35 = (σ 86 35) → σ189 86 37 = (σ 86 37) → qLI (qtT (α 106) (α 107) (σ 86 35)) (σ 86 37) (qtx_lv (qtT (α 106) (α 107) (σ 86 35)) (σ 86 37) (fun b => qtx_on (qtT (α 106) (α 107) (σ 86 35)) (σ 86 37) (α 109) ro b) 3) 1 ((qtx_lv (qtT (α 106) (α 107) (σ 86 35)) (σ 86 37) (fun b => qtx_on (qtT (α 106) (α 107) (σ 86 35)) (σ 86 37) (α 109) ro b) (3 + 1)) (σ 86 36)) u188 (σ189 86 36) (σ189 86 38) → (σ 86 36 ≤ σ189 86 36 ∧ σ189 86 36 ≤ σ 86 37 ∧ σ 86 39 ≤ σ189 86 39 ∧ ((σ189 86 38 = -1 ∧ σ189 86 39 = σ 86 39 ∧ σ 86 36 < σ189 86 36) ∨ σ189 86 38 = σ189 86 36)) → qr_W (qe L xs vb) (d + 2) qx_e215 (fun r w' => ∃ σ', w' = qw σ' α κ ρ ∧ qI σ' α κ ρ ∧ qFr [(86, 36), (86, 38), (86, 39)] [] σ α σ' α ∧ ∃ v : Int, r = some (.int (qz v)) ∧ ((-2147483648) ≤ v ∧ v ≤ 2147483647) ∧ (σ 86 36 ≤ σ' 86 36 ∧ σ' 86 36 ≤ σ 86 37 ∧ σ 86 39 ≤ σ' 86 39 ∧ ((σ' 86 38 = -1 ∧ σ' 86 39 = σ 86 39 ∧ σ 86 36 < σ' 86 36) ∨ σ' 86 38 = σ' 86 36)) ∧ qRes ((qtx_lv (qtT (α 106) (α 107) (σ 86 35)) (σ 86 37) (fun b => qtx_on (qtT (α 106) (α 107) (σ 86 35)) (σ 86 37) (α 109) ro b) (3 + 1)) (σ 86 36)) v (σ' 86 36) (σ' 86 38)) (5, ls, [], qw σ189 α κ ρ, 0, 0) := by
    intro n
    induction n with
    | zero => intro ls u188 σ189 hm g186 g187 hf195 hI191 hF192 hk193 hk194 hx196 hx197; exact False.elim (by omega)
    | succ n ih199 =>
      intro ls u188 σ189 hm g186 g187 hf195 hI191 hF192 hk193 hk194 hx196 hx197
      have hs200 : 0 ≤ σ189 86 36 ∧ σ189 86 36 ≤ 120 := hI191.1 86 36
      have hs201 : (-1) ≤ σ189 86 38 ∧ σ189 86 38 ≤ 120 := hI191.1 86 38
      have hs202 : 0 ≤ σ189 86 39 ∧ σ189 86 39 ≤ 6 := hI191.1 86 39
      have hcc203 := qtx_c_2 (qtT (α 106) (α 107) (σ 86 35)) (σ 86 37) (σ189 86 36)
      refine qr_aload_n 6 rfl g186 rfl ?_
      refine qr_bipush 8 rfl (by decide) rfl ?_
      refine qr_callN 11 rfl rfl rfl (sf_222_86x (d := d + 0) hI191 (by omega) (by omega)) ?_
      have hs206 : (-1) ≤ σ189 86 35 ∧ σ189 86 35 ≤ 120 := hI191.1 86 35
      have hs207 : σ189 86 35 = (σ 86 35) := (hk193).trans rfl
      have hs208 : 0 ≤ σ189 86 36 ∧ σ189 86 36 ≤ 120 := hI191.1 86 36
      have hs209 : 0 ≤ σ189 86 37 ∧ σ189 86 37 ≤ 120 := hI191.1 86 37
      have hs210 : σ189 86 37 = (σ 86 37) := (hk194).trans rfl
      have hs211 : (-1) ≤ σ189 86 38 ∧ σ189 86 38 ≤ 120 := hI191.1 86 38
      rintro _ _ ⟨σ212, rfl, hI213, hG214, v204, rfl, hv204, hp205⟩
      have hF215 : qFr [(86, 36), (86, 38), (86, 39)] [] σ α σ212 α := qFr_t hF192 hG214 (by decide) (by decide)
      have hs216 : 0 ≤ σ212 86 36 ∧ σ212 86 36 ≤ 120 := hI213.1 86 36
      rw [hF192.1 86 35 (by decide), hF192.1 86 37 (by decide)] at hp205
      show qr_W (qe L xs vb) (d + 2) qx_e215 _ (11, _, [.int (qz v204)], qw σ212 α κ ρ, 0, 0)
      refine qr_if_eq 36 14 rfl rfl rfl (by omega) (fun h217 => ?_) (fun h217 => ?_)
      · skip
        refine qr_iload_n 37 rfl g187 rfl ?_
        refine qr_retI rfl rfl (by decide) (by decide) ?_
        have hw218 : σ212 86 36 = (σ212 86 36) := rfl
        have hw219 : σ212 86 38 = (σ189 86 38) := (hG214.1 86 38 (by decide)).trans rfl
        have hw220 : σ212 86 39 = (σ189 86 39) := (hG214.1 86 39 (by decide)).trans rfl
        exact ⟨_, rfl, hI213, hF215, u188, rfl, by omega, by omega, (by rw [show σ212 86 38 = (σ189 86 38) from (hG214.1 86 38 (by decide)).trans rfl]; rw [show σ212 86 36 = σ189 86 36 by omega]; exact (qLI_e hx196 (fun _ => by have hlo := qtx_lo_c (qtx_c (qtT (α 106) (α 107) (σ 86 35)) (σ 86 37) (σ189 86 36)); omega)))⟩
      · skip
        refine qr_aload_n 15 rfl g186 rfl ?_
        have hs221 : 0 ≤ σ212 86 36 ∧ σ212 86 36 ≤ 120 := hI213.1 86 36
        have hs222 : 0 ≤ σ212 86 37 ∧ σ212 86 37 ≤ 120 := hI213.1 86 37
        have hs223 : σ212 86 37 = (σ 86 37) := (hG214.1 86 37 (by decide)).trans ((hk194).trans rfl)
        have hs224 : (-1) ≤ σ212 86 38 ∧ σ212 86 38 ≤ 120 := hI213.1 86 38
        have hs225 : σ212 86 38 = (σ189 86 38) := (hG214.1 86 38 (by decide)).trans rfl
        have hs226 : 0 ≤ σ212 86 39 ∧ σ212 86 39 ≤ 6 := hI213.1 86 39
        have hs227 : σ212 86 39 = (σ189 86 39) := (hG214.1 86 39 (by decide)).trans rfl
        refine qr_callN 18 rfl rfl rfl (ihC hI213 (by omega) (by omega) (by omega)) ?_
        have hs231 : 0 ≤ σ212 86 36 ∧ σ212 86 36 ≤ 120 := hI213.1 86 36
        have hs232 : 0 ≤ σ212 86 37 ∧ σ212 86 37 ≤ 120 := hI213.1 86 37
        have hs233 : σ212 86 37 = (σ 86 37) := (hG214.1 86 37 (by decide)).trans ((hk194).trans rfl)
        have hs234 : 0 ≤ σ212 86 39 ∧ σ212 86 39 ≤ 6 := hI213.1 86 39
        have hs235 : σ212 86 39 = (σ189 86 39) := (hG214.1 86 39 (by decide)).trans rfl
        rintro _ _ ⟨σ236, rfl, hI237, hG238, v228, rfl, hv228, hp229, hx230⟩
        have hF239 : qFr [(86, 36), (86, 38), (86, 39)] [] σ α σ236 α := qFr_t hF215 hG238 (by decide) (by decide)
        have hs240 : 0 ≤ σ236 86 36 ∧ σ236 86 36 ≤ 120 := hI237.1 86 36
        have hs241 : (-1) ≤ σ236 86 38 ∧ σ236 86 38 ≤ 120 := hI237.1 86 38
        have hs242 : 0 ≤ σ236 86 39 ∧ σ236 86 39 ≤ 6 := hI237.1 86 39
        rw [hF215.1 86 37 (by decide), (show σ212 86 39 = (σ189 86 39) from (hG214.1 86 39 (by decide)).trans rfl)] at hp229
        rw [hF215.1 86 35 (by decide), hF215.1 86 37 (by decide)] at hx230
        show qr_W (qe L xs vb) (d + 2) qx_e215 _ (18, _, [.int (qz v228)], qw σ236 α κ ρ, 0, 0)
        refine qr_istore_n _ 19 rfl (by decide) rfl rfl ?_
        refine qr_iload_n 20 rfl (qm_gk g187 (by decide) (Or.inr rfl)) rfl ?_
        refine qr_if_eq 31 23 rfl rfl rfl (by omega) (fun h243 => ?_) (fun h243 => ?_)
        · skip
          refine qr_iconst 32 rfl rfl ?_
          refine qr_istore_n _ 33 rfl (by decide) rfl rfl ?_
          refine qr_goto 5 rfl rfl ?_
          exact ih199 _ 0 σ236 (by omega) (qm_gk (qm_gk g186 (by decide) (Or.inl (by decide))) (by decide) (Or.inr rfl)) (qm_ge _ _ _) (by omega) hI237 hF239 ((hG238.1 86 35 (by decide)).trans ((hG214.1 86 35 (by decide)).trans ((hk193).trans rfl))) ((hG238.1 86 37 (by decide)).trans ((hG214.1 86 37 (by decide)).trans ((hk194).trans rfl))) (by have hlo := qtx_lo_c (qtx_c (qtT (α 106) (α 107) (σ 86 35)) (σ 86 37) (σ189 86 36)); have hi : qLI (qtT (α 106) (α 107) (σ 86 35)) (σ 86 37) (qtx_lv (qtT (α 106) (α 107) (σ 86 35)) (σ 86 37) (fun b => qtx_on (qtT (α 106) (α 107) (σ 86 35)) (σ 86 37) (α 109) ro b) 3) 1 ((qtx_lv (qtT (α 106) (α 107) (σ 86 35)) (σ 86 37) (fun b => qtx_on (qtT (α 106) (α 107) (σ 86 35)) (σ 86 37) (α 109) ro b) (3 + 1)) (σ 86 36)) u188 (σ189 86 36) (-1) := (by have h9 := hx196; rwa [show σ189 86 38 = -1 by omega] at h9); exact qLI_s hi (by omega) (by decide) (by omega) (by have h8 := hx230; rwa [show σ212 86 36 = σ189 86 36 + 1 by omega] at h8) (by omega) (fun _ => qap_and (by omega) (by omega))) (by omega)
        · skip
          refine qr_iload_n 24 rfl (qm_ge _ _ _) rfl ?_
          refine qr_if_eq 31 27 rfl rfl rfl (by omega) (fun h244 => ?_) (fun h244 => ?_)
          · skip
            refine qr_iconst 32 rfl rfl ?_
            refine qr_istore_n _ 33 rfl (by decide) rfl rfl ?_
            refine qr_goto 5 rfl rfl ?_
            exact ih199 _ 0 σ236 (by omega) (qm_gk (qm_gk g186 (by decide) (Or.inl (by decide))) (by decide) (Or.inr rfl)) (qm_ge _ _ _) (by omega) hI237 hF239 ((hG238.1 86 35 (by decide)).trans ((hG214.1 86 35 (by decide)).trans ((hk193).trans rfl))) ((hG238.1 86 37 (by decide)).trans ((hG214.1 86 37 (by decide)).trans ((hk194).trans rfl))) (by have hlo := qtx_lo_c (qtx_c (qtT (α 106) (α 107) (σ 86 35)) (σ 86 37) (σ189 86 36)); have hi : qLI (qtT (α 106) (α 107) (σ 86 35)) (σ 86 37) (qtx_lv (qtT (α 106) (α 107) (σ 86 35)) (σ 86 37) (fun b => qtx_on (qtT (α 106) (α 107) (σ 86 35)) (σ 86 37) (α 109) ro b) 3) 1 ((qtx_lv (qtT (α 106) (α 107) (σ 86 35)) (σ 86 37) (fun b => qtx_on (qtT (α 106) (α 107) (σ 86 35)) (σ 86 37) (α 109) ro b) (3 + 1)) (σ 86 36)) u188 (σ189 86 36) (-1) := (by have h9 := hx196; rwa [show σ189 86 38 = -1 by omega] at h9); exact qLI_s hi (by omega) (by decide) (by omega) (by have h8 := hx230; rwa [show σ212 86 36 = σ189 86 36 + 1 by omega] at h8) (by omega) (fun _ => qap_and (by omega) (by omega))) (by omega)
          · skip
            refine qr_iconst 28 rfl rfl ?_
            refine qr_goto 32 rfl rfl ?_
            refine qr_istore_n _ 33 rfl (by decide) rfl rfl ?_
            refine qr_goto 5 rfl rfl ?_
            exact ih199 _ 1 σ236 (by omega) (qm_gk (qm_gk g186 (by decide) (Or.inl (by decide))) (by decide) (Or.inr rfl)) (qm_ge _ _ _) (by omega) hI237 hF239 ((hG238.1 86 35 (by decide)).trans ((hG214.1 86 35 (by decide)).trans ((hk193).trans rfl))) ((hG238.1 86 37 (by decide)).trans ((hG214.1 86 37 (by decide)).trans ((hk194).trans rfl))) (by have hlo := qtx_lo_c (qtx_c (qtT (α 106) (α 107) (σ 86 35)) (σ 86 37) (σ189 86 36)); have hi : qLI (qtT (α 106) (α 107) (σ 86 35)) (σ 86 37) (qtx_lv (qtT (α 106) (α 107) (σ 86 35)) (σ 86 37) (fun b => qtx_on (qtT (α 106) (α 107) (σ 86 35)) (σ 86 37) (α 109) ro b) 3) 1 ((qtx_lv (qtT (α 106) (α 107) (σ 86 35)) (σ 86 37) (fun b => qtx_on (qtT (α 106) (α 107) (σ 86 35)) (σ 86 37) (α 109) ro b) (3 + 1)) (σ 86 36)) u188 (σ189 86 36) (-1) := (by have h9 := hx196; rwa [show σ189 86 38 = -1 by omega] at h9); exact qLI_s hi (by omega) (by decide) (by omega) (by have h8 := hx230; rwa [show σ212 86 36 = σ189 86 36 + 1 by omega] at h8) (by omega) (fun _ => qap_and (by omega) (by omega))) (by omega)
  exact hL198 ((((120 - σ11 86 36).toNat : Int) + 1 : Int)).toNat _ v5 σ11 (by omega) rfl rfl (by omega) hI12 hF14 ((hG13.1 86 35 (by decide)).trans rfl) ((hG13.1 86 37 (by decide)).trans rfl) (by exact qLI_0 hx7 ⟨by omega, by omega⟩) (by omega)

set_option maxHeartbeats 4000000 in
set_option maxRecDepth 20000 in
/-- OneRoofModel.either -/
theorem sf_214_86x {L : Nat} {xs : Nat → Int} {vb : Bool} {d : Nat} {σ α : Nat → Nat → Int} {κ : Nat → Option Nat} {ρ : Nat} {ro : Nat} (ihC : ∀ {σ α : Nat → Nat → Int}, qI σ α κ ρ → σ 86 36 ≤ σ 86 37 → σ 86 38 = -1 → σ 86 39 + (ro : Int) = 6 → qm_T (qe L xs vb) (d + 2) 215 [.ref 86] (qw σ α κ ρ) (fun r w' => ∃ σ', w' = qw σ' α κ ρ ∧ qI σ' α κ ρ ∧ qFr [(86, 36), (86, 38), (86, 39)] [] σ α σ' α ∧ ∃ v : Int, r = some (.int (qz v)) ∧ ((-2147483648) ≤ v ∧ v ≤ 2147483647) ∧ (σ 86 36 ≤ σ' 86 36 ∧ σ' 86 36 ≤ σ 86 37 ∧ σ 86 39 ≤ σ' 86 39 ∧ ((σ' 86 38 = -1 ∧ σ' 86 39 = σ 86 39 ∧ σ 86 36 < σ' 86 36) ∨ σ' 86 38 = σ' 86 36)) ∧ qRes ((qtx_lv (qtT (α 106) (α 107) (σ 86 35)) (σ 86 37) (fun b => qtx_on (qtT (α 106) (α 107) (σ 86 35)) (σ 86 37) (α 109) ro b) 4) (σ 86 36)) v (σ' 86 36) (σ' 86 38))) (hI : qI σ α κ ρ) (p0 : σ 86 36 ≤ σ 86 37) (p1 : σ 86 38 = -1) (p2 : σ 86 39 + (ro : Int) = 6) : qm_T (qe L xs vb) (d + 3) 214 [.ref 86] (qw σ α κ ρ) (fun r w' => ∃ σ', w' = qw σ' α κ ρ ∧ qI σ' α κ ρ ∧ qFr [(86, 36), (86, 38), (86, 39)] [] σ α σ' α ∧ ∃ v : Int, r = some (.int (qz v)) ∧ ((-2147483648) ≤ v ∧ v ≤ 2147483647) ∧ (σ 86 36 ≤ σ' 86 36 ∧ σ' 86 36 ≤ σ 86 37 ∧ σ 86 39 ≤ σ' 86 39 ∧ ((σ' 86 38 = -1 ∧ σ' 86 39 = σ 86 39 ∧ σ 86 36 < σ' 86 36) ∨ σ' 86 38 = σ' 86 36)) ∧ qRes ((qtx_lv (qtT (α 106) (α 107) (σ 86 35)) (σ 86 37) (fun b => qtx_on (qtT (α 106) (α 107) (σ 86 35)) (σ 86 37) (α 109) ro b) (4 + 1)) (σ 86 36)) v (σ' 86 36) (σ' 86 38)) := by
  refine qr_start (d := d + 2) qv_e214 (Nat.le_of_ble_eq_true rfl) ?_
  show qr_W (qe L xs vb) (d + 2) qx_e214 _ (0, [(0, .ref 86)], [], _, 0, 0)
  have hF0 := qFr_rf [(86, 36), (86, 38), (86, 39)] [] σ α
  have hz86_36 : 0 ≤ σ 86 36 ∧ σ 86 36 ≤ 120 := hI.1 86 36
  have hz86_37 : 0 ≤ σ 86 37 ∧ σ 86 37 ≤ 120 := hI.1 86 37
  have hz86_39 : 0 ≤ σ 86 39 ∧ σ 86 39 ≤ 6 := hI.1 86 39
  have hz86_38 : (-1) ≤ σ 86 38 ∧ σ 86 38 ≤ 120 := hI.1 86 38
  have hz86_35 : (-1) ≤ σ 86 35 ∧ σ 86 35 ≤ 120 := hI.1 86 35
  refine qr_aload_n 1 rfl rfl rfl ?_
  have hs1 : 0 ≤ σ 86 36 ∧ σ 86 36 ≤ 120 := hI.1 86 36
  have hs2 : 0 ≤ σ 86 37 ∧ σ 86 37 ≤ 120 := hI.1 86 37
  have hs3 : (-1) ≤ σ 86 38 ∧ σ 86 38 ≤ 120 := hI.1 86 38
  have hs4 : 0 ≤ σ 86 39 ∧ σ 86 39 ≤ 6 := hI.1 86 39
  refine qr_callN 4 rfl rfl rfl (ihC hI (by omega) (by omega) (by omega)) ?_
  have hs8 : 0 ≤ σ 86 36 ∧ σ 86 36 ≤ 120 := hI.1 86 36
  have hs9 : 0 ≤ σ 86 37 ∧ σ 86 37 ≤ 120 := hI.1 86 37
  have hs10 : 0 ≤ σ 86 39 ∧ σ 86 39 ≤ 6 := hI.1 86 39
  rintro _ _ ⟨σ11, rfl, hI12, hG13, v5, rfl, hv5, hp6, hx7⟩
  have hF14 : qFr [(86, 36), (86, 38), (86, 39)] [] σ α σ11 α := qFr_t hF0 hG13 (by decide) (by decide)
  have hs15 : 0 ≤ σ11 86 36 ∧ σ11 86 36 ≤ 120 := hI12.1 86 36
  have hs16 : (-1) ≤ σ11 86 38 ∧ σ11 86 38 ≤ 120 := hI12.1 86 38
  have hs17 : 0 ≤ σ11 86 39 ∧ σ11 86 39 ≤ 6 := hI12.1 86 39
  show qr_W (qe L xs vb) (d + 2) qx_e214 _ (4, _, [.int (qz v5)], qw σ11 α κ ρ, 0, 0)
  refine qr_istore_n _ 5 rfl (by decide) rfl rfl ?_
  have hL198 : ∀ (n : Nat) (ls : qm_L) (u188 : Int) (σ189 : Nat → Nat → Int), ((120 - σ189 86 36).toNat : Int) < (n : Int) → qm_get ls 0 = some (.ref 86) → qm_get ls 1 = some (.int (qz u188)) → ((-2147483648) ≤ u188 ∧ u188 ≤ 2147483647) → qI σ189 α κ ρ → qFr [(86, 36), (86, 38), (86, 39)] [] σ α σ189 α → σ189 86 35 = (σ 86 35) → σ189 86 37 = (σ 86 37) → qLI (qtT (α 106) (α 107) (σ 86 35)) (σ 86 37) (qtx_lv (qtT (α 106) (α 107) (σ 86 35)) (σ 86 37) (fun b => qtx_on (qtT (α 106) (α 107) (σ 86 35)) (σ 86 37) (α 109) ro b) 4) 0 ((qtx_lv (qtT (α 106) (α 107) (σ 86 35)) (σ 86 37) (fun b => qtx_on (qtT (α 106) (α 107) (σ 86 35)) (σ 86 37) (α 109) ro b) (4 + 1)) (σ 86 36)) u188 (σ189 86 36) (σ189 86 38) → (σ 86 36 ≤ σ189 86 36 ∧ σ189 86 36 ≤ σ 86 37 ∧ σ 86 39 ≤ σ189 86 39 ∧ ((σ189 86 38 = -1 ∧ σ189 86 39 = σ 86 39 ∧ σ 86 36 < σ189 86 36) ∨ σ189 86 38 = σ189 86 36)) → qr_W (qe L xs vb) (d + 2) qx_e214 (fun r w' => ∃ σ', w' = qw σ' α κ ρ ∧ qI σ' α κ ρ ∧ qFr [(86, 36), (86, 38), (86, 39)] [] σ α σ' α ∧ ∃ v : Int, r = some (.int (qz v)) ∧ ((-2147483648) ≤ v ∧ v ≤ 2147483647) ∧ (σ 86 36 ≤ σ' 86 36 ∧ σ' 86 36 ≤ σ 86 37 ∧ σ 86 39 ≤ σ' 86 39 ∧ ((σ' 86 38 = -1 ∧ σ' 86 39 = σ 86 39 ∧ σ 86 36 < σ' 86 36) ∨ σ' 86 38 = σ' 86 36)) ∧ qRes ((qtx_lv (qtT (α 106) (α 107) (σ 86 35)) (σ 86 37) (fun b => qtx_on (qtT (α 106) (α 107) (σ 86 35)) (σ 86 37) (α 109) ro b) (4 + 1)) (σ 86 36)) v (σ' 86 36) (σ' 86 38)) (5, ls, [], qw σ189 α κ ρ, 0, 0) := by
    intro n
    induction n with
    | zero => intro ls u188 σ189 hm g186 g187 hf195 hI191 hF192 hk193 hk194 hx196 hx197; exact False.elim (by omega)
    | succ n ih199 =>
      intro ls u188 σ189 hm g186 g187 hf195 hI191 hF192 hk193 hk194 hx196 hx197
      have hs200 : 0 ≤ σ189 86 36 ∧ σ189 86 36 ≤ 120 := hI191.1 86 36
      have hs201 : (-1) ≤ σ189 86 38 ∧ σ189 86 38 ≤ 120 := hI191.1 86 38
      have hs202 : 0 ≤ σ189 86 39 ∧ σ189 86 39 ≤ 6 := hI191.1 86 39
      have hcc203 := qtx_c_2 (qtT (α 106) (α 107) (σ 86 35)) (σ 86 37) (σ189 86 36)
      refine qr_aload_n 6 rfl g186 rfl ?_
      refine qr_bipush 8 rfl (by decide) rfl ?_
      refine qr_callN 11 rfl rfl rfl (sf_222_86x (d := d + 0) hI191 (by omega) (by omega)) ?_
      have hs206 : (-1) ≤ σ189 86 35 ∧ σ189 86 35 ≤ 120 := hI191.1 86 35
      have hs207 : σ189 86 35 = (σ 86 35) := (hk193).trans rfl
      have hs208 : 0 ≤ σ189 86 36 ∧ σ189 86 36 ≤ 120 := hI191.1 86 36
      have hs209 : 0 ≤ σ189 86 37 ∧ σ189 86 37 ≤ 120 := hI191.1 86 37
      have hs210 : σ189 86 37 = (σ 86 37) := (hk194).trans rfl
      have hs211 : (-1) ≤ σ189 86 38 ∧ σ189 86 38 ≤ 120 := hI191.1 86 38
      rintro _ _ ⟨σ212, rfl, hI213, hG214, v204, rfl, hv204, hp205⟩
      have hF215 : qFr [(86, 36), (86, 38), (86, 39)] [] σ α σ212 α := qFr_t hF192 hG214 (by decide) (by decide)
      have hs216 : 0 ≤ σ212 86 36 ∧ σ212 86 36 ≤ 120 := hI213.1 86 36
      rw [hF192.1 86 35 (by decide), hF192.1 86 37 (by decide)] at hp205
      show qr_W (qe L xs vb) (d + 2) qx_e214 _ (11, _, [.int (qz v204)], qw σ212 α κ ρ, 0, 0)
      refine qr_if_eq 36 14 rfl rfl rfl (by omega) (fun h217 => ?_) (fun h217 => ?_)
      · skip
        refine qr_iload_n 37 rfl g187 rfl ?_
        refine qr_retI rfl rfl (by decide) (by decide) ?_
        have hw218 : σ212 86 36 = (σ212 86 36) := rfl
        have hw219 : σ212 86 38 = (σ189 86 38) := (hG214.1 86 38 (by decide)).trans rfl
        have hw220 : σ212 86 39 = (σ189 86 39) := (hG214.1 86 39 (by decide)).trans rfl
        exact ⟨_, rfl, hI213, hF215, u188, rfl, by omega, by omega, (by rw [show σ212 86 38 = (σ189 86 38) from (hG214.1 86 38 (by decide)).trans rfl]; rw [show σ212 86 36 = σ189 86 36 by omega]; exact (qLI_e hx196 (fun _ => by have hlo := qtx_lo_c (qtx_c (qtT (α 106) (α 107) (σ 86 35)) (σ 86 37) (σ189 86 36)); omega)))⟩
      · skip
        refine qr_aload_n 15 rfl g186 rfl ?_
        have hs221 : 0 ≤ σ212 86 36 ∧ σ212 86 36 ≤ 120 := hI213.1 86 36
        have hs222 : 0 ≤ σ212 86 37 ∧ σ212 86 37 ≤ 120 := hI213.1 86 37
        have hs223 : σ212 86 37 = (σ 86 37) := (hG214.1 86 37 (by decide)).trans ((hk194).trans rfl)
        have hs224 : (-1) ≤ σ212 86 38 ∧ σ212 86 38 ≤ 120 := hI213.1 86 38
        have hs225 : σ212 86 38 = (σ189 86 38) := (hG214.1 86 38 (by decide)).trans rfl
        have hs226 : 0 ≤ σ212 86 39 ∧ σ212 86 39 ≤ 6 := hI213.1 86 39
        have hs227 : σ212 86 39 = (σ189 86 39) := (hG214.1 86 39 (by decide)).trans rfl
        refine qr_callN 18 rfl rfl rfl (ihC hI213 (by omega) (by omega) (by omega)) ?_
        have hs231 : 0 ≤ σ212 86 36 ∧ σ212 86 36 ≤ 120 := hI213.1 86 36
        have hs232 : 0 ≤ σ212 86 37 ∧ σ212 86 37 ≤ 120 := hI213.1 86 37
        have hs233 : σ212 86 37 = (σ 86 37) := (hG214.1 86 37 (by decide)).trans ((hk194).trans rfl)
        have hs234 : 0 ≤ σ212 86 39 ∧ σ212 86 39 ≤ 6 := hI213.1 86 39
        have hs235 : σ212 86 39 = (σ189 86 39) := (hG214.1 86 39 (by decide)).trans rfl
        rintro _ _ ⟨σ236, rfl, hI237, hG238, v228, rfl, hv228, hp229, hx230⟩
        have hF239 : qFr [(86, 36), (86, 38), (86, 39)] [] σ α σ236 α := qFr_t hF215 hG238 (by decide) (by decide)
        have hs240 : 0 ≤ σ236 86 36 ∧ σ236 86 36 ≤ 120 := hI237.1 86 36
        have hs241 : (-1) ≤ σ236 86 38 ∧ σ236 86 38 ≤ 120 := hI237.1 86 38
        have hs242 : 0 ≤ σ236 86 39 ∧ σ236 86 39 ≤ 6 := hI237.1 86 39
        rw [hF215.1 86 37 (by decide), (show σ212 86 39 = (σ189 86 39) from (hG214.1 86 39 (by decide)).trans rfl)] at hp229
        rw [hF215.1 86 35 (by decide), hF215.1 86 37 (by decide)] at hx230
        show qr_W (qe L xs vb) (d + 2) qx_e214 _ (18, _, [.int (qz v228)], qw σ236 α κ ρ, 0, 0)
        refine qr_istore_n _ 19 rfl (by decide) rfl rfl ?_
        refine qr_iload_n 20 rfl (qm_gk g187 (by decide) (Or.inr rfl)) rfl ?_
        refine qr_if_ne 27 23 rfl rfl rfl (by omega) (fun h243 => ?_) (fun h243 => ?_)
        · skip
          refine qr_iconst 28 rfl rfl ?_
          refine qr_goto 32 rfl rfl ?_
          refine qr_istore_n _ 33 rfl (by decide) rfl rfl ?_
          refine qr_goto 5 rfl rfl ?_
          exact ih199 _ 1 σ236 (by omega) (qm_gk (qm_gk g186 (by decide) (Or.inl (by decide))) (by decide) (Or.inr rfl)) (qm_ge _ _ _) (by omega) hI237 hF239 ((hG238.1 86 35 (by decide)).trans ((hG214.1 86 35 (by decide)).trans ((hk193).trans rfl))) ((hG238.1 86 37 (by decide)).trans ((hG214.1 86 37 (by decide)).trans ((hk194).trans rfl))) (by have hlo := qtx_lo_c (qtx_c (qtT (α 106) (α 107) (σ 86 35)) (σ 86 37) (σ189 86 36)); have hi : qLI (qtT (α 106) (α 107) (σ 86 35)) (σ 86 37) (qtx_lv (qtT (α 106) (α 107) (σ 86 35)) (σ 86 37) (fun b => qtx_on (qtT (α 106) (α 107) (σ 86 35)) (σ 86 37) (α 109) ro b) 4) 0 ((qtx_lv (qtT (α 106) (α 107) (σ 86 35)) (σ 86 37) (fun b => qtx_on (qtT (α 106) (α 107) (σ 86 35)) (σ 86 37) (α 109) ro b) (4 + 1)) (σ 86 36)) u188 (σ189 86 36) (-1) := (by have h9 := hx196; rwa [show σ189 86 38 = -1 by omega] at h9); exact qLI_s hi (by omega) (by decide) (by omega) (by have h8 := hx230; rwa [show σ212 86 36 = σ189 86 36 + 1 by omega] at h8) (by omega) (fun _ => qap_or (by omega) (by omega))) (by omega)
        · skip
          refine qr_iload_n 24 rfl (qm_ge _ _ _) rfl ?_
          refine qr_if_eq 31 27 rfl rfl rfl (by omega) (fun h244 => ?_) (fun h244 => ?_)
          · skip
            refine qr_iconst 32 rfl rfl ?_
            refine qr_istore_n _ 33 rfl (by decide) rfl rfl ?_
            refine qr_goto 5 rfl rfl ?_
            exact ih199 _ 0 σ236 (by omega) (qm_gk (qm_gk g186 (by decide) (Or.inl (by decide))) (by decide) (Or.inr rfl)) (qm_ge _ _ _) (by omega) hI237 hF239 ((hG238.1 86 35 (by decide)).trans ((hG214.1 86 35 (by decide)).trans ((hk193).trans rfl))) ((hG238.1 86 37 (by decide)).trans ((hG214.1 86 37 (by decide)).trans ((hk194).trans rfl))) (by have hlo := qtx_lo_c (qtx_c (qtT (α 106) (α 107) (σ 86 35)) (σ 86 37) (σ189 86 36)); have hi : qLI (qtT (α 106) (α 107) (σ 86 35)) (σ 86 37) (qtx_lv (qtT (α 106) (α 107) (σ 86 35)) (σ 86 37) (fun b => qtx_on (qtT (α 106) (α 107) (σ 86 35)) (σ 86 37) (α 109) ro b) 4) 0 ((qtx_lv (qtT (α 106) (α 107) (σ 86 35)) (σ 86 37) (fun b => qtx_on (qtT (α 106) (α 107) (σ 86 35)) (σ 86 37) (α 109) ro b) (4 + 1)) (σ 86 36)) u188 (σ189 86 36) (-1) := (by have h9 := hx196; rwa [show σ189 86 38 = -1 by omega] at h9); exact qLI_s hi (by omega) (by decide) (by omega) (by have h8 := hx230; rwa [show σ212 86 36 = σ189 86 36 + 1 by omega] at h8) (by omega) (fun _ => qap_or (by omega) (by omega))) (by omega)
          · skip
            refine qr_iconst 28 rfl rfl ?_
            refine qr_goto 32 rfl rfl ?_
            refine qr_istore_n _ 33 rfl (by decide) rfl rfl ?_
            refine qr_goto 5 rfl rfl ?_
            exact ih199 _ 1 σ236 (by omega) (qm_gk (qm_gk g186 (by decide) (Or.inl (by decide))) (by decide) (Or.inr rfl)) (qm_ge _ _ _) (by omega) hI237 hF239 ((hG238.1 86 35 (by decide)).trans ((hG214.1 86 35 (by decide)).trans ((hk193).trans rfl))) ((hG238.1 86 37 (by decide)).trans ((hG214.1 86 37 (by decide)).trans ((hk194).trans rfl))) (by have hlo := qtx_lo_c (qtx_c (qtT (α 106) (α 107) (σ 86 35)) (σ 86 37) (σ189 86 36)); have hi : qLI (qtT (α 106) (α 107) (σ 86 35)) (σ 86 37) (qtx_lv (qtT (α 106) (α 107) (σ 86 35)) (σ 86 37) (fun b => qtx_on (qtT (α 106) (α 107) (σ 86 35)) (σ 86 37) (α 109) ro b) 4) 0 ((qtx_lv (qtT (α 106) (α 107) (σ 86 35)) (σ 86 37) (fun b => qtx_on (qtT (α 106) (α 107) (σ 86 35)) (σ 86 37) (α 109) ro b) (4 + 1)) (σ 86 36)) u188 (σ189 86 36) (-1) := (by have h9 := hx196; rwa [show σ189 86 38 = -1 by omega] at h9); exact qLI_s hi (by omega) (by decide) (by omega) (by have h8 := hx230; rwa [show σ212 86 36 = σ189 86 36 + 1 by omega] at h8) (by omega) (fun _ => qap_or (by omega) (by omega))) (by omega)
  exact hL198 ((((120 - σ11 86 36).toNat : Int) + 1 : Int)).toNat _ v5 σ11 (by omega) rfl rfl (by omega) hI12 hF14 ((hG13.1 86 35 (by decide)).trans rfl) ((hG13.1 86 37 (by decide)).trans rfl) (by exact qLI_0 hx7 ⟨by omega, by omega⟩) (by omega)
