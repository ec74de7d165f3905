section
theorem qtx_c_2 (T : Nat → Int) (n a : Int) : qtx_c T n a = -1 ∨ a < n := by
  rcases qtx_c_c T n a with h | h | h
  · exact Or.inl h.2
  · exact Or.inr h.1.2
  · exact Or.inl h.2
def qtT (a b : Nat → Int) (s : Int) : Nat → Int := if s < 0 then a else fun j => b (s.toNat + j)
theorem qap_mul {c u w v : Int} (hc : c = 42) (he : qz v = qz (u * w)) (hv : -2147483648 ≤ v ∧ v ≤ 2147483647) : v = qtx_ap c u w := by
  rw [hc, qtx_can he hv]
  rfl
theorem qap_add {c u w v : Int} (hc : c = 43) (he : qz v = qz (u + w)) (hv : -2147483648 ≤ v ∧ v ≤ 2147483647) : v = qtx_ap c u w := by
  rw [hc, qtx_can he hv]
  rfl
theorem qap_sub {c u w v : Int} (hc : c = 45) (he : qz v = qz (u - w)) (hv : -2147483648 ≤ v ∧ v ≤ 2147483647) : v = qtx_ap c u w := by
  rw [hc, qtx_can he hv]
  rfl
theorem qap_div {c u w v : Int} (hc : c = 47) (hw : ¬ w = 0) (he : qz v = qz (qz_tdiv u w)) (hv : -2147483648 ≤ v ∧ v ≤ 2147483647) : v = qtx_ap c u w := by
  have e : v = qz_tdiv u w := (qtx_can he hv).trans (qz_ti (qz_rng _))
  rw [hc, e]
  exact (if_neg hw).symm
theorem qap_rem {c u w v : Int} (hc : c = 37) (hw : ¬ w = 0) (he : qz v = qz (qz_trem u w)) (hv : -2147483648 ≤ v ∧ v ≤ 2147483647) : v = qtx_ap c u w := by
  have e : v = qz_trem u w := (qtx_can he hv).trans (qz_ti (qz_rng _))
  rw [hc, e]
  exact (if_neg hw).symm
theorem qap_z {c u w : Int} (hc : c = 47 ∨ c = 37) (hw : w = 0) : 0 = qtx_ap c u w := by
  rcases hc with rfl | rfl <;> exact (if_pos hw).symm
theorem qap_or {c u w v : Int} (hc : c = 124) (h : (v = 0 ∧ u = 0 ∧ w = 0) ∨ (v = 1 ∧ ¬ (u = 0 ∧ w = 0))) : v = qtx_ap c u w := by
  rw [hc]
  rcases h with ⟨rfl, h2⟩ | ⟨rfl, h2⟩
  · exact (if_pos h2).symm
  · exact (if_neg h2).symm
theorem qap_and {c u w v : Int} (hc : c = 38) (h : (v = 0 ∧ (u = 0 ∨ w = 0)) ∨ (v = 1 ∧ ¬ (u = 0 ∨ w = 0))) : v = qtx_ap c u w := by
  rw [hc]
  rcases h with ⟨rfl, h2⟩ | ⟨rfl, h2⟩
  · exact (if_pos h2).symm
  · exact (if_neg h2).symm
theorem qap_cmp {c u w v : Int} (h : (c = 60 ∧ ((v = 1 ∧ u < w) ∨ (v = 0 ∧ ¬ u < w))) ∨ (c = 61 ∧ ((v = 1 ∧ u = w) ∨ (v = 0 ∧ ¬ u = w))) ∨ (c = 62 ∧ ((v = 1 ∧ w < u) ∨ (v = 0 ∧ ¬ w < u)))) : v = qtx_ap c u w := by
  rcases h with ⟨rfl, h⟩ | ⟨rfl, h⟩ | ⟨rfl, h⟩ <;> rcases h with ⟨rfl, h2⟩ | ⟨rfl, h2⟩
  · exact (if_pos h2).symm
  · exact (if_neg h2).symm
  · exact (if_pos h2).symm
  · exact (if_neg h2).symm
  · exact (if_pos h2).symm
  · exact (if_neg h2).symm
theorem qap_neg {w v : Int} (he : qz v = qz (-w)) (hv : -2147483648 ≤ v ∧ v ≤ 2147483647) : v = qtx_ng 45 w := qtx_can he hv
theorem qap_not {w v : Int} (h : (w = 0 ∧ v = 1) ∨ (¬ w = 0 ∧ v = 0)) : v = qtx_ng 33 w := by
  rcases h with ⟨h1, rfl⟩ | ⟨h1, rfl⟩
  · exact (if_pos h1).symm
  · exact (if_neg h1).symm
theorem qnm_pos {c m : Int} (h : m = qtx_nm c) (hm : 0 ≤ m) : 99 ≤ c ∧ m ≤ 8 := by
  have := qtx_nm_c c
  omega
theorem qnm_neg {c c0 m : Int} (h : m = qtx_nm c) (hm : m < 0) (hc : c = c0 ∨ (c = 0 ∧ c0 = -1)) : qtx_nm c0 < 0 := by
  rcases hc with hc | ⟨_, hc⟩
  · rw [← hc, ← h]; exact hm
  · rw [hc]; decide
theorem qtx_num_e {T : Nat → Int} {n : Int} {k : Nat} {u a : Int} (h : k = 0 ∨ ¬ (48 ≤ qtx_c T n a ∧ qtx_c T n a ≤ 57)) : qtx_num T n k u a = (u, a) := by
  rcases h with rfl | h
  · rfl
  · exact qtx_num_st h
theorem qtx_num_g {T : Nat → Int} {n : Int} {k k2 : Nat} {u a u2 a2 : Int} (hk : k = k2 + 1) (h : 48 ≤ qtx_c T n a ∧ qtx_c T n a ≤ 57) (hu : u2 = 10 * u + qtx_c T n a - 48) (ha : a2 = a + 1) : qtx_num T n k u a = qtx_num T n k2 u2 a2 := by
  rw [hk, qtx_num_go h, hu, ha]

set_option maxHeartbeats 4000000 in
set_option maxRecDepth 20000 in
/-- OneRoofModel.byteAt -/
theorem sf_220_86x {L : Nat} {xs : Nat → Int} {vb : Bool} {d : Nat} {σ α : Nat → Nat → Int} {κ : Nat → Option Nat} {ρ : Nat}  (hI : qI σ α κ ρ)  : qm_T (qe L xs vb) (d + 1) 220 [.ref 86] (qw σ α κ ρ) (fun r w' => w' = qw σ α κ ρ ∧ ∃ v : Int, r = some (.int (qz v)) ∧ ((-2147483648) ≤ v ∧ v ≤ 2147483647) ∧ ((σ 86 36 < σ 86 37 ∧ v = (qtx_c (qtT (α 106) (α 107) (σ 86 35)) (σ 86 37) (σ 86 36))) ∨ (σ 86 37 ≤ σ 86 36 ∧ v = 0 ∧ (qtx_c (qtT (α 106) (α 107) (σ 86 35)) (σ 86 37) (σ 86 36)) = -1))) := by
  refine qr_start (d := d + 0) qv_e220 (Nat.le_of_ble_eq_true rfl) ?_
  show qr_W (qe L xs vb) (d + 0) qx_e220 _ (0, [(0, .ref 86)], [], _, 0, 0)
  have hz86_36 : 0 ≤ σ 86 36 ∧ σ 86 36 ≤ 120 := hI.1 86 36
  have hz86_37 : 0 ≤ σ 86 37 ∧ σ 86 37 ≤ 120 := hI.1 86 37
  have hz86_35 : (-1) ≤ σ 86 35 ∧ σ 86 35 ≤ 120 := hI.1 86 35
  refine qr_aload_n 1 rfl rfl rfl ?_
  refine qr_get 4 rfl rfl rfl (by decide) rfl ?_
  refine qr_aload_n 5 rfl rfl rfl ?_
  refine qr_get 8 rfl rfl rfl (by decide) rfl ?_
  refine qr_icmp_ge 47 11 rfl rfl rfl (qrg hz86_36 (by decide) (by decide)) (qrg hz86_37 (by decide) (by decide)) (fun h1 => ?_) (fun h1 => ?_)
  · skip
    refine qr_iconst 48 rfl rfl ?_
    refine qr_retI rfl rfl (by decide) (by decide) ?_
    exact ⟨rfl, 0, rfl, (by decide), (by have hc := qtx_c_c (qtT (α 106) (α 107) (σ 86 35)) (σ 86 37) (σ 86 36); omega)⟩
  · skip
    refine qr_aload_n 12 rfl rfl rfl ?_
    refine qr_get 15 rfl rfl rfl (by decide) rfl ?_
    refine qr_if_ge 30 18 rfl rfl rfl (qrg hz86_35 (by decide) (by decide)) (fun h2 => ?_) (fun h2 => ?_)
    · skip
      refine qr_aload_n 31 rfl rfl rfl ?_
      refine qr_get 34 rfl rfl rfl (by decide) rfl ?_
      refine qr_aload_n 35 rfl rfl rfl ?_
      refine qr_get 38 rfl rfl rfl (by decide) rfl ?_
      refine qr_aload_n 39 rfl rfl rfl ?_
      refine qr_get 42 rfl rfl rfl (by decide) rfl ?_
      refine qr_iadd 43 rfl rfl ?_
      refine qr_iaload 44 rfl rfl (by omega) (by decide) rfl ?_
      refine qr_topI (fun v3 hv3 => ?_)
      have hs4 : (-2147483648) ≤ v3 ∧ v3 ≤ 2147483647 := by rw [hv3]; exact hI.2.1 107 _ (show _ < 240 by omega)
      refine qr_goto 48 rfl rfl ?_
      refine qr_retI rfl rfl (by decide) (by decide) ?_
      exact ⟨rfl, v3, rfl, hs4, (by have hc := qtx_c_c (qtT (α 106) (α 107) (σ 86 35)) (σ 86 37) (σ 86 36); have ht : (qtT (α 106) (α 107) (σ 86 35)) (σ 86 36 : Int).toNat = v3 := (by rw [hv3]; unfold qtT; rw [if_neg (by omega)]; congr 1; omega); omega)⟩
    · skip
      refine qr_aload_n 19 rfl rfl rfl ?_
      refine qr_get 22 rfl rfl rfl (by decide) rfl ?_
      refine qr_aload_n 23 rfl rfl rfl ?_
      refine qr_get 26 rfl rfl rfl (by decide) rfl ?_
      refine qr_iaload 27 rfl rfl (by omega) (by decide) rfl ?_
      refine qr_topI (fun v5 hv5 => ?_)
      have hs6 : (-2147483648) ≤ v5 ∧ v5 ≤ 2147483647 := by rw [hv5]; exact hI.2.1 106 _ (show _ < 120 by omega)
      refine qr_goto 48 rfl rfl ?_
      refine qr_retI rfl rfl (by decide) (by decide) ?_
      exact ⟨rfl, v5, rfl, hs6, (by have hc := qtx_c_c (qtT (α 106) (α 107) (σ 86 35)) (σ 86 37) (σ 86 36); have ht : (qtT (α 106) (α 107) (σ 86 35)) (σ 86 36 : Int).toNat = v5 := (by rw [hv5]; unfold qtT; rw [if_pos (by omega)]); omega)⟩

set_option maxHeartbeats 4000000 in
set_option maxRecDepth 20000 in
/-- OneRoofModel.takes -/
theorem sf_222_86x {L : Nat} {xs : Nat → Int} {vb : Bool} {d : Nat} {σ α : Nat → Nat → Int} {κ : Nat → Option Nat} {ρ : Nat} {x1 : Int} (hI : qI σ α κ ρ) (r1 : (-2147483648) ≤ x1 ∧ x1 ≤ 2147483647) (p0 : 1 ≤ x1) : qm_T (qe L xs vb) (d + 2) 222 [.ref 86, .int (qz x1)] (qw σ α κ ρ) (fun r w' => ∃ σ', w' = qw σ' α κ ρ ∧ qI σ' α κ ρ ∧ qFr [(86, 36)] [] σ α σ' α ∧ ∃ v : Int, r = some (.int (qz v)) ∧ (0 ≤ v ∧ v ≤ 1) ∧ ((v = 1 ∧ σ 86 38 < 0 ∧ (qtx_c (qtT (α 106) (α 107) (σ 86 35)) (σ 86 37) (σ 86 36)) = x1 ∧ σ 86 36 < σ 86 37 ∧ σ' 86 36 = σ 86 36 + 1) ∨ (v = 0 ∧ ¬ (σ 86 38 < 0 ∧ (qtx_c (qtT (α 106) (α 107) (σ 86 35)) (σ 86 37) (σ 86 36)) = x1) ∧ σ' 86 36 = σ 86 36))) := by
  refine qr_start (d := d + 1) qv_e222 (Nat.le_of_ble_eq_true rfl) ?_
  show qr_W (qe L xs vb) (d + 1) qx_e222 _ (0, [(0, .ref 86), (1, .int (qz x1))], [], _, 0, 0)
  have hF0 := qFr_rf [(86, 36)] [] σ α
  have hz86_38 : (-1) ≤ σ 86 38 ∧ σ 86 38 ≤ 120 := hI.1 86 38
  have hz86_35 : (-1) ≤ σ 86 35 ∧ σ 86 35 ≤ 120 := hI.1 86 35
  have hz86_37 : 0 ≤ σ 86 37 ∧ σ 86 37 ≤ 120 := hI.1 86 37
  have hz86_36 : 0 ≤ σ 86 36 ∧ σ 86 36 ≤ 120 := hI.1 86 36
  refine qr_aload_n 1 rfl rfl rfl ?_
  refine qr_get 4 rfl rfl rfl (by decide) rfl ?_
  refine qr_if_ge 15 7 rfl rfl rfl (qrg hz86_38 (by decide) (by decide)) (fun h1 => ?_) (fun h1 => ?_)
  · skip
    refine qr_iconst 16 rfl rfl ?_
    refine qr_retZ rfl rfl (Or.inl rfl) (by decide) (by decide) ?_
    have hw2 : σ 86 36 = (σ 86 36) := rfl
    exact ⟨_, rfl, hI, hF0, 0, rfl, (by decide), by omega⟩
  · skip
    refine qr_aload_n 8 rfl rfl rfl ?_
    refine qr_callN 11 rfl rfl rfl (sf_220_86x (d := d + 0) hI ) ?_
    have hs5 : (-1) ≤ σ 86 35 ∧ σ 86 35 ≤ 120 := hI.1 86 35
    have hs6 : 0 ≤ σ 86 36 ∧ σ 86 36 ≤ 120 := hI.1 86 36
    have hs7 : 0 ≤ σ 86 37 ∧ σ 86 37 ≤ 120 := hI.1 86 37
    rintro _ _ ⟨rfl, v3, rfl, hv3, hp4⟩
    show qr_W (qe L xs vb) (d + 1) qx_e222 _ (11, _, [.int (qz v3)], qw σ α κ ρ, 0, 0)
    refine qr_iload_n 12 rfl rfl rfl ?_
    refine qr_icmp_eq 17 15 rfl rfl rfl hv3 r1 (fun h8 => ?_) (fun h8 => ?_)
    · skip
      refine qr_aload_n 18 rfl rfl rfl ?_
      refine qr_dup 19 rfl rfl rfl ?_
      refine qr_get 22 rfl rfl rfl (by decide) rfl ?_
      refine qr_iconst 23 rfl rfl ?_
      refine qr_iadd 24 rfl rfl ?_
      refine qr_put 27 rfl (by decide) rfl (Nat.le_of_ble_eq_true rfl) (Nat.le_of_ble_eq_true rfl) (Or.inl rfl) (qr_fitI rfl _) rfl ?_
      refine qy_wS (qw_s σ 86 36 ((σ 86 36) + 1)) rfl (fun σ9 e10 => ?_)
      have hI11 : qI σ9 α κ ρ := by rw [e10]; exact qI_s hI 86 36 rfl (show 0 ≤ ((σ 86 36) + 1) ∧ ((σ 86 36) + 1) ≤ 120 by omega)
      have hF12 : qFr [(86, 36)] [] σ α σ9 α := by rw [e10]; exact qFr_s hF0 86 36 _ (by decide)
      refine qr_iconst 28 rfl rfl ?_
      refine qr_retZ rfl rfl (Or.inr rfl) (by decide) (by decide) ?_
      have hw13 : σ9 86 36 = ((σ 86 36) + 1) := (congrFun (congrFun e10 86) 36).trans rfl
      exact ⟨_, rfl, hI11, hF12, 1, rfl, (by decide), by omega⟩
    · skip
      refine qr_iconst 16 rfl rfl ?_
      refine qr_retZ rfl rfl (Or.inl rfl) (by decide) (by decide) ?_
      have hw14 : σ 86 36 = (σ 86 36) := rfl
      exact ⟨_, rfl, hI, hF0, 0, rfl, (by decide), by omega⟩

set_option maxHeartbeats 4000000 in
set_option maxRecDepth 20000 in
/-- OneRoofModel.wrong -/
theorem sf_221_86x {L : Nat} {xs : Nat → Int} {vb : Bool} {d : Nat} {σ α : Nat → Nat → Int} {κ : Nat → Option Nat} {ρ : Nat}  (hI : qI σ α κ ρ)  : qm_T (qe L xs vb) (d + 1) 221 [.ref 86] (qw σ α κ ρ) (fun r w' => ∃ σ', w' = qw σ' α κ ρ ∧ qI σ' α κ ρ ∧ qFr [(86, 38)] [] σ α σ' α ∧ ∃ v : Int, r = some (.int (qz v)) ∧ (0 ≤ v ∧ v ≤ 0) ∧ ((σ 86 38 < 0 ∧ σ' 86 38 = σ 86 36) ∨ (0 ≤ σ 86 38 ∧ σ' 86 38 = σ 86 38))) := by
  refine qr_start (d := d + 0) qv_e221 (Nat.le_of_ble_eq_true rfl) ?_
  show qr_W (qe L xs vb) (d + 0) qx_e221 _ (0, [(0, .ref 86)], [], _, 0, 0)
  have hF0 := qFr_rf [(86, 38)] [] σ α
  have hz86_38 : (-1) ≤ σ 86 38 ∧ σ 86 38 ≤ 120 := hI.1 86 38
  have hz86_36 : 0 ≤ σ 86 36 ∧ σ 86 36 ≤ 120 := hI.1 86 36
  refine qr_aload_n 1 rfl rfl rfl ?_
  refine qr_aload_n 2 rfl rfl rfl ?_
  refine qr_get 5 rfl rfl rfl (by decide) rfl ?_
  refine qr_if_ge 15 8 rfl rfl rfl (qrg hz86_38 (by decide) (by decide)) (fun h1 => ?_) (fun h1 => ?_)
  · skip
    refine qr_aload_n 16 rfl rfl rfl ?_
    refine qr_get 19 rfl rfl rfl (by decide) rfl ?_
    refine qr_put 22 rfl (by decide) rfl (Nat.le_of_ble_eq_true rfl) (Nat.le_of_ble_eq_true rfl) (Or.inl rfl) (qr_fitI rfl _) rfl ?_
    refine qy_wS (qw_s σ 86 38 (σ 86 38)) rfl (fun σ2 e3 => ?_)
    have hI4 : qI σ2 α κ ρ := by rw [e3]; exact qI_s hI 86 38 rfl (show (-1) ≤ (σ 86 38) ∧ (σ 86 38) ≤ 120 by omega)
    have hF5 : qFr [(86, 38)] [] σ α σ2 α := by rw [e3]; exact qFr_s hF0 86 38 _ (by decide)
    refine qr_iconst 23 rfl rfl ?_
    refine qr_retI rfl rfl (by decide) (by decide) ?_
    have hw6 : σ2 86 38 = (σ 86 38) := (congrFun (congrFun e3 86) 38).trans rfl
    exact ⟨_, rfl, hI4, hF5, 0, rfl, (by decide), by omega⟩
  · skip
    refine qr_aload_n 9 rfl rfl rfl ?_
    refine qr_get 12 rfl rfl rfl (by decide) rfl ?_
    refine qr_goto 19 rfl rfl ?_
    refine qr_put 22 rfl (by decide) rfl (Nat.le_of_ble_eq_true rfl) (Nat.le_of_ble_eq_true rfl) (Or.inl rfl) (qr_fitI rfl _) rfl ?_
    refine qy_wS (qw_s σ 86 38 (σ 86 36)) rfl (fun σ7 e8 => ?_)
    have hI9 : qI σ7 α κ ρ := by rw [e8]; exact qI_s hI 86 38 rfl (show (-1) ≤ (σ 86 36) ∧ (σ 86 36) ≤ 120 by omega)
    have hF10 : qFr [(86, 38)] [] σ α σ7 α := by rw [e8]; exact qFr_s hF0 86 38 _ (by decide)
    refine qr_iconst 23 rfl rfl ?_
    refine qr_retI rfl rfl (by decide) (by decide) ?_
    have hw11 : σ7 86 38 = (σ 86 36) := (congrFun (congrFun e8 86) 38).trans rfl
    exact ⟨_, rfl, hI9, hF10, 0, rfl, (by decide), by omega⟩

set_option maxHeartbeats 4000000 in
set_option maxRecDepth 20000 in
/-- OneRoofModel.nameOf -/
theorem sf_223x {L : Nat} {xs : Nat → Int} {vb : Bool} {d : Nat} {σ α : Nat → Nat → Int} {κ : Nat → Option Nat} {ρ : Nat} {x0 : Int} (hI : qI σ α κ ρ) (r0 : (-2147483648) ≤ x0 ∧ x0 ≤ 2147483647) : qm_T (qe L xs vb) (d + 1) 223 [.int (qz x0)] (qw σ α κ ρ) (fun r w' => w' = qw σ α κ ρ ∧ ∃ v : Int, r = some (.int (qz v)) ∧ ((-1) ≤ v ∧ v ≤ 8) ∧ v = qtx_nm x0) := by
  refine qr_start (d := d + 0) qv_e223 (Nat.le_of_ble_eq_true rfl) ?_
  show qr_W (qe L xs vb) (d + 0) qx_e223 _ (0, [(0, .int (qz x0))], [], _, 0, 0)
  have hq := qtx_nm_c x0
  refine qr_iload_n 1 rfl rfl rfl ?_
  have h1 : x0 = 99 ∨ x0 = 100 ∨ x0 = 101 ∨ x0 = 102 ∨ x0 = 103 ∨ x0 = 104 ∨ x0 = 105 ∨ x0 = 106 ∨ x0 = 107 ∨ x0 = 108 ∨ x0 = 109 ∨ x0 = 110 ∨ x0 = 111 ∨ x0 = 112 ∨ x0 = 113 ∨ x0 = 114 ∨ x0 = 115 ∨ x0 = 116 ∨ x0 = 117 ∨ x0 = 118 ∨ x0 = 119 ∨ (x0 < 99 ∨ 119 < x0) := by omega
  rcases h1 with h1 | h1 | h1 | h1 | h1 | h1 | h1 | h1 | h1 | h1 | h1 | h1 | h1 | h1 | h1 | h1 | h1 | h1 | h1 | h1 | h1 | h1
  · skip
    refine qr_tabIn 104 rfl r0 (by rw [h1]; decide) (by rw [h1]; rfl) rfl ?_
    refine qr_iconst 105 rfl rfl ?_
    refine qr_retI rfl rfl (by decide) (by decide) ?_
    exact ⟨rfl, 2, rfl, (by decide), by omega⟩
  · skip
    refine qr_tabIn 118 rfl r0 (by rw [h1]; decide) (by rw [h1]; rfl) rfl ?_
    refine qr_bipush 120 rfl (by decide) rfl ?_
    refine qr_retI rfl rfl (by decide) (by decide) ?_
    exact ⟨rfl, 8, rfl, (by decide), by omega⟩
  · skip
    refine qr_tabIn 121 rfl r0 (by rw [h1]; decide) (by rw [h1]; rfl) rfl ?_
    refine qr_iconst 122 rfl rfl ?_
    refine qr_retI rfl rfl (by decide) (by decide) ?_
    exact ⟨rfl, (-1), rfl, (by decide), by omega⟩
  · skip
    refine qr_tabIn 100 rfl r0 (by rw [h1]; decide) (by rw [h1]; rfl) rfl ?_
    refine qr_iconst 101 rfl rfl ?_
    refine qr_retI rfl rfl (by decide) (by decide) ?_
    exact ⟨rfl, 0, rfl, (by decide), by omega⟩
  · skip
    refine qr_tabIn 121 rfl r0 (by rw [h1]; decide) (by rw [h1]; rfl) rfl ?_
    refine qr_iconst 122 rfl rfl ?_
    refine qr_retI rfl rfl (by decide) (by decide) ?_
    exact ⟨rfl, (-1), rfl, (by decide), by omega⟩
  · skip
    refine qr_tabIn 121 rfl r0 (by rw [h1]; decide) (by rw [h1]; rfl) rfl ?_
    refine qr_iconst 122 rfl rfl ?_
    refine qr_retI rfl rfl (by decide) (by decide) ?_
    exact ⟨rfl, (-1), rfl, (by decide), by omega⟩
  · skip
    refine qr_tabIn 121 rfl r0 (by rw [h1]; decide) (by rw [h1]; rfl) rfl ?_
    refine qr_iconst 122 rfl rfl ?_
    refine qr_retI rfl rfl (by decide) (by decide) ?_
    exact ⟨rfl, (-1), rfl, (by decide), by omega⟩
  · skip
    refine qr_tabIn 121 rfl r0 (by rw [h1]; decide) (by rw [h1]; rfl) rfl ?_
    refine qr_iconst 122 rfl rfl ?_
    refine qr_retI rfl rfl (by decide) (by decide) ?_
    exact ⟨rfl, (-1), rfl, (by decide), by omega⟩
  · skip
    refine qr_tabIn 112 rfl r0 (by rw [h1]; decide) (by rw [h1]; rfl) rfl ?_
    refine qr_bipush 114 rfl (by decide) rfl ?_
    refine qr_retI rfl rfl (by decide) (by decide) ?_
    exact ⟨rfl, 6, rfl, (by decide), by omega⟩
  · skip
    refine qr_tabIn 110 rfl r0 (by rw [h1]; decide) (by rw [h1]; rfl) rfl ?_
    refine qr_iconst 111 rfl rfl ?_
    refine qr_retI rfl rfl (by decide) (by decide) ?_
    exact ⟨rfl, 5, rfl, (by decide), by omega⟩
  · skip
    refine qr_tabIn 121 rfl r0 (by rw [h1]; decide) (by rw [h1]; rfl) rfl ?_
    refine qr_iconst 122 rfl rfl ?_
    refine qr_retI rfl rfl (by decide) (by decide) ?_
    exact ⟨rfl, (-1), rfl, (by decide), by omega⟩
  · skip
    refine qr_tabIn 102 rfl r0 (by rw [h1]; decide) (by rw [h1]; rfl) rfl ?_
    refine qr_iconst 103 rfl rfl ?_
    refine qr_retI rfl rfl (by decide) (by decide) ?_
    exact ⟨rfl, 1, rfl, (by decide), by omega⟩
  · skip
    refine qr_tabIn 115 rfl r0 (by rw [h1]; decide) (by rw [h1]; rfl) rfl ?_
    refine qr_bipush 117 rfl (by decide) rfl ?_
    refine qr_retI rfl rfl (by decide) (by decide) ?_
    exact ⟨rfl, 7, rfl, (by decide), by omega⟩
  · skip
    refine qr_tabIn 121 rfl r0 (by rw [h1]; decide) (by rw [h1]; rfl) rfl ?_
    refine qr_iconst 122 rfl rfl ?_
    refine qr_retI rfl rfl (by decide) (by decide) ?_
    exact ⟨rfl, (-1), rfl, (by decide), by omega⟩
  · skip
    refine qr_tabIn 121 rfl r0 (by rw [h1]; decide) (by rw [h1]; rfl) rfl ?_
    refine qr_iconst 122 rfl rfl ?_
    refine qr_retI rfl rfl (by decide) (by decide) ?_
    exact ⟨rfl, (-1), rfl, (by decide), by omega⟩
  · skip
    refine qr_tabIn 121 rfl r0 (by rw [h1]; decide) (by rw [h1]; rfl) rfl ?_
    refine qr_iconst 122 rfl rfl ?_
    refine qr_retI rfl rfl (by decide) (by decide) ?_
    exact ⟨rfl, (-1), rfl, (by decide), by omega⟩
  · skip
    refine qr_tabIn 121 rfl r0 (by rw [h1]; decide) (by rw [h1]; rfl) rfl ?_
    refine qr_iconst 122 rfl rfl ?_
    refine qr_retI rfl rfl (by decide) (by decide) ?_
    exact ⟨rfl, (-1), rfl, (by decide), by omega⟩
  · skip
    refine qr_tabIn 121 rfl r0 (by rw [h1]; decide) (by rw [h1]; rfl) rfl ?_
    refine qr_iconst 122 rfl rfl ?_
    refine qr_retI rfl rfl (by decide) (by decide) ?_
    exact ⟨rfl, (-1), rfl, (by decide), by omega⟩
  · skip
    refine qr_tabIn 121 rfl r0 (by rw [h1]; decide) (by rw [h1]; rfl) rfl ?_
    refine qr_iconst 122 rfl rfl ?_
    refine qr_retI rfl rfl (by decide) (by decide) ?_
    exact ⟨rfl, (-1), rfl, (by decide), by omega⟩
  · skip
    refine qr_tabIn 108 rfl r0 (by rw [h1]; decide) (by rw [h1]; rfl) rfl ?_
    refine qr_iconst 109 rfl rfl ?_
    refine qr_retI rfl rfl (by decide) (by decide) ?_
    exact ⟨rfl, 4, rfl, (by decide), by omega⟩
  · skip
    refine qr_tabIn 106 rfl r0 (by rw [h1]; decide) (by rw [h1]; rfl) rfl ?_
    refine qr_iconst 107 rfl rfl ?_
    refine qr_retI rfl rfl (by decide) (by decide) ?_
    exact ⟨rfl, 3, rfl, (by decide), by omega⟩
  · skip
    refine qr_tabOut 121 rfl r0 (by omega) rfl ?_
    refine qr_iconst 122 rfl rfl ?_
    refine qr_retI rfl rfl (by decide) (by decide) ?_
    exact ⟨rfl, (-1), rfl, (by decide), by omega⟩

set_option maxHeartbeats 4000000 in
set_option maxRecDepth 20000 in
/-- OneRoofModel.product -/
theorem sf_218_86x {L : Nat} {xs : Nat → Int} {vb : Bool} {d : Nat} {σ α : Nat → Nat → Int} {κ : Nat → Option Nat} {ρ : Nat} {ro : Nat} (ihC : ∀ {σ α : Nat → Nat → Int}, qI σ α κ ρ → σ 86 36 ≤ σ 86 37 → σ 86 38 = -1 → σ 86 39 + (ro : Int) = 6 → qm_T (qe L xs vb) (d + 1) 219 [.ref 86] (qw σ α κ ρ) (fun r w' => ∃ σ', w' = qw σ' α κ ρ ∧ qI σ' α κ ρ ∧ qFr [(86, 36), (86, 38), (86, 39)] [] σ α σ' α ∧ ∃ v : Int, r = some (.int (qz v)) ∧ ((-2147483648) ≤ v ∧ v ≤ 2147483647) ∧ (σ 86 36 ≤ σ' 86 36 ∧ σ' 86 36 ≤ σ 86 37 ∧ σ 86 39 ≤ σ' 86 39 ∧ ((σ' 86 38 = -1 ∧ σ' 86 39 = σ 86 39 ∧ σ 86 36 < σ' 86 36) ∨ σ' 86 38 = σ' 86 36)) ∧ qRes ((qtx_lv (qtT (α 106) (α 107) (σ 86 35)) (σ 86 37) (fun b => qtx_on (qtT (α 106) (α 107) (σ 86 35)) (σ 86 37) (α 109) ro b) 0) (σ 86 36)) v (σ' 86 36) (σ' 86 38))) (hI : qI σ α κ ρ) (p0 : σ 86 36 ≤ σ 86 37) (p1 : σ 86 38 = -1) (p2 : σ 86 39 + (ro : Int) = 6) : qm_T (qe L xs vb) (d + 2) 218 [.ref 86] (qw σ α κ ρ) (fun r w' => ∃ σ', w' = qw σ' α κ ρ ∧ qI σ' α κ ρ ∧ qFr [(86, 36), (86, 38), (86, 39)] [] σ α σ' α ∧ ∃ v : Int, r = some (.int (qz v)) ∧ ((-2147483648) ≤ v ∧ v ≤ 2147483647) ∧ (σ 86 36 ≤ σ' 86 36 ∧ σ' 86 36 ≤ σ 86 37 ∧ σ 86 39 ≤ σ' 86 39 ∧ ((σ' 86 38 = -1 ∧ σ' 86 39 = σ 86 39 ∧ σ 86 36 < σ' 86 36) ∨ σ' 86 38 = σ' 86 36)) ∧ qRes ((qtx_lv (qtT (α 106) (α 107) (σ 86 35)) (σ 86 37) (fun b => qtx_on (qtT (α 106) (α 107) (σ 86 35)) (σ 86 37) (α 109) ro b) (0 + 1)) (σ 86 36)) v (σ' 86 36) (σ' 86 38)) := by
  refine qr_start (d := d + 1) qv_e218 (Nat.le_of_ble_eq_true rfl) ?_
  show qr_W (qe L xs vb) (d + 1) qx_e218 _ (0, [(0, .ref 86)], [], _, 0, 0)
  have hF0 := qFr_rf [(86, 36), (86, 38), (86, 39)] [] σ α
  have hz86_36 : 0 ≤ σ 86 36 ∧ σ 86 36 ≤ 120 := hI.1 86 36
  have hz86_37 : 0 ≤ σ 86 37 ∧ σ 86 37 ≤ 120 := hI.1 86 37
  have hz86_39 : 0 ≤ σ 86 39 ∧ σ 86 39 ≤ 6 := hI.1 86 39
  have hz86_38 : (-1) ≤ σ 86 38 ∧ σ 86 38 ≤ 120 := hI.1 86 38
  have hz86_35 : (-1) ≤ σ 86 35 ∧ σ 86 35 ≤ 120 := hI.1 86 35
  refine qr_aload_n 1 rfl rfl rfl ?_
  have hs1 : 0 ≤ σ 86 36 ∧ σ 86 36 ≤ 120 := hI.1 86 36
  have hs2 : 0 ≤ σ 86 37 ∧ σ 86 37 ≤ 120 := hI.1 86 37
  have hs3 : (-1) ≤ σ 86 38 ∧ σ 86 38 ≤ 120 := hI.1 86 38
  have hs4 : 0 ≤ σ 86 39 ∧ σ 86 39 ≤ 6 := hI.1 86 39
  refine qr_callN 4 rfl rfl rfl (ihC hI (by omega) (by omega) (by omega)) ?_
  have hs8 : 0 ≤ σ 86 36 ∧ σ 86 36 ≤ 120 := hI.1 86 36
  have hs9 : 0 ≤ σ 86 37 ∧ σ 86 37 ≤ 120 := hI.1 86 37
  have hs10 : 0 ≤ σ 86 39 ∧ σ 86 39 ≤ 6 := hI.1 86 39
  rintro _ _ ⟨σ11, rfl, hI12, hG13, v5, rfl, hv5, hp6, hx7⟩
  have hF14 : qFr [(86, 36), (86, 38), (86, 39)] [] σ α σ11 α := qFr_t hF0 hG13 (by decide) (by decide)
  have hs15 : 0 ≤ σ11 86 36 ∧ σ11 86 36 ≤ 120 := hI12.1 86 36
  have hs16 : (-1) ≤ σ11 86 38 ∧ σ11 86 38 ≤ 120 := hI12.1 86 38
  have hs17 : 0 ≤ σ11 86 39 ∧ σ11 86 39 ≤ 6 := hI12.1 86 39
  show qr_W (qe L xs vb) (d + 1) qx_e218 _ (4, _, [.int (qz v5)], qw σ11 α κ ρ, 0, 0)
  refine qr_istore_n _ 5 rfl (by decide) rfl rfl ?_
  refine qr_aload_n 6 rfl rfl rfl ?_
  refine qr_callN 9 rfl rfl rfl (sf_220_86x (d := d + 0) hI12 ) ?_
  have hs20 : (-1) ≤ σ11 86 35 ∧ σ11 86 35 ≤ 120 := hI12.1 86 35
  have hs21 : σ11 86 35 = (σ 86 35) := (hG13.1 86 35 (by decide)).trans rfl
  have hs22 : 0 ≤ σ11 86 36 ∧ σ11 86 36 ≤ 120 := hI12.1 86 36
  have hs23 : 0 ≤ σ11 86 37 ∧ σ11 86 37 ≤ 120 := hI12.1 86 37
  have hs24 : σ11 86 37 = (σ 86 37) := (hG13.1 86 37 (by decide)).trans rfl
  rintro _ _ ⟨rfl, v18, rfl, hv18, hp19⟩
  rw [hF14.1 86 35 (by decide), hF14.1 86 37 (by decide)] at hp19
  show qr_W (qe L xs vb) (d + 1) qx_e218 _ (9, _, [.int (qz v18)], qw σ11 α κ ρ, 0, 0)
  refine qr_istore_n _ 10 rfl (by decide) rfl rfl ?_
  have hL557 : ∀ (n : Nat) (ls : qm_L) (u543 u545 : Int) (σ546 : Nat → Nat → Int), ((120 - σ546 86 36).toNat : Int) < (n : Int) → qm_get ls 0 = some (.ref 86) → qm_get ls 1 = some (.int (qz u543)) → qm_get ls 2 = some (.int (qz u545)) → ((-2147483648) ≤ u543 ∧ u543 ≤ 2147483647) → ((-2147483648) ≤ u545 ∧ u545 ≤ 2147483647) → qI σ546 α κ ρ → qFr [(86, 36), (86, 38), (86, 39)] [] σ α σ546 α → σ546 86 35 = (σ 86 35) → σ546 86 37 = (σ 86 37) → qLI (qtT (α 106) (α 107) (σ 86 35)) (σ 86 37) (qtx_lv (qtT (α 106) (α 107) (σ 86 35)) (σ 86 37) (fun b => qtx_on (qtT (α 106) (α 107) (σ 86 35)) (σ 86 37) (α 109) ro b) 0) 4 ((qtx_lv (qtT (α 106) (α 107) (σ 86 35)) (σ 86 37) (fun b => qtx_on (qtT (α 106) (α 107) (σ 86 35)) (σ 86 37) (α 109) ro b) (0 + 1)) (σ 86 36)) u543 (σ546 86 36) (σ546 86 38) → (σ 86 36 ≤ σ546 86 36 ∧ σ546 86 36 ≤ σ 86 37 ∧ σ 86 39 ≤ σ546 86 39 ∧ ((σ546 86 38 = -1 ∧ σ546 86 39 = σ 86 39 ∧ σ 86 36 < σ546 86 36) ∨ σ546 86 38 = σ546 86 36)) → (u545 = (qtx_c (qtT (α 106) (α 107) (σ 86 35)) (σ 86 37) (σ546 86 36)) ∨ (u545 = 0 ∧ (qtx_c (qtT (α 106) (α 107) (σ 86 35)) (σ 86 37) (σ546 86 36)) = -1)) → qr_W (qe L xs vb) (d + 1) qx_e218 (fun r w' => ∃ σ', w' = qw σ' α κ ρ ∧ qI σ' α κ ρ ∧ qFr [(86, 36), (86, 38), (86, 39)] [] σ α σ' α ∧ ∃ v : Int, r = some (.int (qz v)) ∧ ((-2147483648) ≤ v ∧ v ≤ 2147483647) ∧ (σ 86 36 ≤ σ' 86 36 ∧ σ' 86 36 ≤ σ 86 37 ∧ σ 86 39 ≤ σ' 86 39 ∧ ((σ' 86 38 = -1 ∧ σ' 86 39 = σ 86 39 ∧ σ 86 36 < σ' 86 36) ∨ σ' 86 38 = σ' 86 36)) ∧ qRes ((qtx_lv (qtT (α 106) (α 107) (σ 86 35)) (σ 86 37) (fun b => qtx_on (qtT (α 106) (α 107) (σ 86 35)) (σ 86 37) (α 109) ro b) (0 + 1)) (σ 86 36)) v (σ' 86 36) (σ' 86 38)) (10, ls, [], qw σ546 α κ ρ, 0, 0) := by
    clear hp6 hp19
    intro n
    induction n with
    | zero => intro ls u543 u545 σ546 hm g541 g542 g544 hf552 hf553 hI548 hF549 hk550 hk551 hx554 hx555 hx556; exact False.elim (by omega)
    | succ n ih558 =>
      intro ls u543 u545 σ546 hm g541 g542 g544 hf552 hf553 hI548 hF549 hk550 hk551 hx554 hx555 hx556
      have hs559 : 0 ≤ σ546 86 36 ∧ σ546 86 36 ≤ 120 := hI548.1 86 36
      have hs560 : (-1) ≤ σ546 86 38 ∧ σ546 86 38 ≤ 120 := hI548.1 86 38
      have hs561 : 0 ≤ σ546 86 39 ∧ σ546 86 39 ≤ 6 := hI548.1 86 39
      have hcc562 := qtx_c_2 (qtT (α 106) (α 107) (σ 86 35)) (σ 86 37) (σ546 86 36)
      refine qr_aload_n 11 rfl g541 rfl ?_
      refine qr_get 14 rfl rfl rfl (by decide) rfl ?_
      refine qr_if_ge 94 17 rfl rfl rfl (by omega) (fun h563 => ?_) (fun h563 => ?_)
      · skip
        refine qr_iload_n 95 rfl g542 rfl ?_
        refine qr_retI rfl rfl (by decide) (by decide) ?_
        have hw564 : σ546 86 36 = (σ546 86 36) := rfl
        have hw565 : σ546 86 38 = (σ546 86 38) := rfl
        have hw566 : σ546 86 39 = (σ546 86 39) := rfl
        exact ⟨_, rfl, hI548, hF549, u543, rfl, hf552, by omega, (by exact (qLI_e hx554 (fun _ => by have hlo := qtx_lo_c (qtx_c (qtT (α 106) (α 107) (σ 86 35)) (σ 86 37) (σ546 86 36)); omega)))⟩
      · skip
        have hdd1 : σ546 86 38 = -1 ∧ σ546 86 39 = σ 86 39 ∧ σ 86 36 < σ546 86 36 := by omega
        refine qr_iload_n 18 rfl g544 rfl ?_
        refine qr_bipush 20 rfl (by decide) rfl ?_
        refine qr_icmp_eq 35 23 rfl rfl rfl hf553 (by decide) (fun h567 => ?_) (fun h567 => ?_)
        · skip
          have hdd2 : qtx_c (qtT (α 106) (α 107) (σ 86 35)) (σ 86 37) (σ546 86 36) = u545 ∧ σ546 86 36 < σ 86 37 := by omega
          refine qr_aload_n 36 rfl g541 rfl ?_
          refine qr_dup 37 rfl rfl rfl ?_
          refine qr_get 40 rfl rfl rfl (by decide) rfl ?_
          refine qr_iconst 41 rfl rfl ?_
          refine qr_iadd 42 rfl rfl ?_
          refine qr_put 45 rfl (by decide) rfl (Nat.le_of_ble_eq_true rfl) (Nat.le_of_ble_eq_true rfl) (Or.inl rfl) (qr_fitI rfl _) rfl ?_
          refine qy_wS (qw_s σ546 86 36 ((σ546 86 36) + 1)) rfl (fun σ568 e569 => ?_)
          have hI570 : qI σ568 α κ ρ := by rw [e569]; exact qI_s hI548 86 36 rfl (show 0 ≤ ((σ546 86 36) + 1) ∧ ((σ546 86 36) + 1) ≤ 120 by omega)
          have hF571 : qFr [(86, 36), (86, 38), (86, 39)] [] σ α σ568 α := by rw [e569]; exact qFr_s hF549 86 36 _ (by decide)
          refine qr_aload_n 46 rfl g541 rfl ?_
          have hs572 : 0 ≤ σ568 86 36 ∧ σ568 86 36 ≤ 120 := hI570.1 86 36
          have hs573 : σ568 86 36 = ((σ546 86 36) + 1) := (congrFun (congrFun e569 86) 36).trans rfl
          have hs574 : 0 ≤ σ568 86 37 ∧ σ568 86 37 ≤ 120 := hI570.1 86 37
          have hs575 : σ568 86 37 = (σ 86 37) := (congrFun (congrFun e569 86) 37).trans ((hk551).trans rfl)
          have hs576 : (-1) ≤ σ568 86 38 ∧ σ568 86 38 ≤ 120 := hI570.1 86 38
          have hs577 : σ568 86 38 = (σ546 86 38) := (congrFun (congrFun e569 86) 38).trans rfl
          have hs578 : 0 ≤ σ568 86 39 ∧ σ568 86 39 ≤ 6 := hI570.1 86 39
          have hs579 : σ568 86 39 = (σ546 86 39) := (congrFun (congrFun e569 86) 39).trans rfl
          refine qr_callN 49 rfl rfl rfl (ihC hI570 (by omega) (by omega) (by omega)) ?_
          have hs583 : 0 ≤ σ568 86 36 ∧ σ568 86 36 ≤ 120 := hI570.1 86 36
          have hs584 : σ568 86 36 = ((σ546 86 36) + 1) := (congrFun (congrFun e569 86) 36).trans rfl
          have hs585 : 0 ≤ σ568 86 37 ∧ σ568 86 37 ≤ 120 := hI570.1 86 37
          have hs586 : σ568 86 37 = (σ 86 37) := (congrFun (congrFun e569 86) 37).trans ((hk551).trans rfl)
          have hs587 : 0 ≤ σ568 86 39 ∧ σ568 86 39 ≤ 6 := hI570.1 86 39
          have hs588 : σ568 86 39 = (σ546 86 39) := (congrFun (congrFun e569 86) 39).trans rfl
          rintro _ _ ⟨σ589, rfl, hI590, hG591, v580, rfl, hv580, hp581, hx582⟩
          have hF592 : qFr [(86, 36), (86, 38), (86, 39)] [] σ α σ589 α := qFr_t hF571 hG591 (by decide) (by decide)
          have hs593 : 0 ≤ σ589 86 36 ∧ σ589 86 36 ≤ 120 := hI590.1 86 36
          have hs594 : (-1) ≤ σ589 86 38 ∧ σ589 86 38 ≤ 120 := hI590.1 86 38
          have hs595 : 0 ≤ σ589 86 39 ∧ σ589 86 39 ≤ 6 := hI590.1 86 39
          rw [hF571.1 86 37 (by decide), (show σ568 86 36 = ((σ546 86 36) + 1) from (congrFun (congrFun e569 86) 36).trans rfl), (show σ568 86 39 = (σ546 86 39) from (congrFun (congrFun e569 86) 39).trans rfl)] at hp581
          rw [hF571.1 86 35 (by decide), hF571.1 86 37 (by decide), (show σ568 86 36 = ((σ546 86 36) + 1) from (congrFun (congrFun e569 86) 36).trans rfl)] at hx582
          show qr_W (qe L xs vb) (d + 1) qx_e218 _ (49, _, [.int (qz v580)], qw σ589 α κ ρ, 0, 0)
          refine qr_istore_n _ 50 rfl (by decide) rfl rfl ?_
          refine qr_iload_n 51 rfl (qm_gk g544 (by decide) (Or.inr rfl)) rfl ?_
          refine qr_bipush 53 rfl (by decide) rfl ?_
          refine qr_icmp_ne 62 56 rfl rfl rfl hf553 (by decide) (fun h => False.elim (by omega)) (fun h596 => ?_)
          refine qr_iload_n 57 rfl (qm_gk g542 (by decide) (Or.inl (by decide))) rfl ?_
          refine qr_iload_n 58 rfl (qm_ge _ _ _) rfl ?_
          refine qr_imul 59 rfl rfl ?_
          refine qy_canE (fun v597 hv597 hev597 => ?_)
          refine qr_goto 85 rfl rfl ?_
          refine qr_istore_n _ 86 rfl (by decide) rfl rfl ?_
          refine qr_aload_n 87 rfl (qm_gk (qm_gk g541 (by decide) (Or.inl (by decide))) (by decide) (Or.inr rfl)) rfl ?_
          refine qr_callN 90 rfl rfl rfl (sf_220_86x (d := d + 0) hI590 ) ?_
          have hs600 : (-1) ≤ σ589 86 35 ∧ σ589 86 35 ≤ 120 := hI590.1 86 35
          have hs601 : σ589 86 35 = (σ 86 35) := (hG591.1 86 35 (by decide)).trans ((congrFun (congrFun e569 86) 35).trans ((hk550).trans rfl))
          have hs602 : 0 ≤ σ589 86 36 ∧ σ589 86 36 ≤ 120 := hI590.1 86 36
          have hs603 : 0 ≤ σ589 86 37 ∧ σ589 86 37 ≤ 120 := hI590.1 86 37
          have hs604 : σ589 86 37 = (σ 86 37) := (hG591.1 86 37 (by decide)).trans ((congrFun (congrFun e569 86) 37).trans ((hk551).trans rfl))
          rintro _ _ ⟨rfl, v598, rfl, hv598, hp599⟩
          rw [hF592.1 86 35 (by decide), hF592.1 86 37 (by decide)] at hp599
          show qr_W (qe L xs vb) (d + 1) qx_e218 _ (90, _, [.int (qz v598)], qw σ589 α κ ρ, 0, 0)
          refine qr_istore_n _ 91 rfl (by decide) rfl rfl ?_
          refine qr_goto 10 rfl rfl ?_
          exact ih558 _ v597 v598 σ589 (by omega) (qm_gk (qm_gk (qm_gk g541 (by decide) (Or.inl (by decide))) (by decide) (Or.inr rfl)) (by decide) (Or.inl (by decide))) (qm_gk (qm_ge _ _ _) (by decide) (Or.inr rfl)) (qm_ge _ _ _) hv597 hv598 hI590 hF592 ((hG591.1 86 35 (by decide)).trans ((congrFun (congrFun e569 86) 35).trans ((hk550).trans rfl))) ((hG591.1 86 37 (by decide)).trans ((congrFun (congrFun e569 86) 37).trans ((hk551).trans rfl))) (by have hlo := qtx_lo_c (qtx_c (qtT (α 106) (α 107) (σ 86 35)) (σ 86 37) (σ546 86 36)); have hi : qLI (qtT (α 106) (α 107) (σ 86 35)) (σ 86 37) (qtx_lv (qtT (α 106) (α 107) (σ 86 35)) (σ 86 37) (fun b => qtx_on (qtT (α 106) (α 107) (σ 86 35)) (σ 86 37) (α 109) ro b) 0) 4 ((qtx_lv (qtT (α 106) (α 107) (σ 86 35)) (σ 86 37) (fun b => qtx_on (qtT (α 106) (α 107) (σ 86 35)) (σ 86 37) (α 109) ro b) (0 + 1)) (σ 86 36)) u543 (σ546 86 36) (-1) := (by have h9 := hx554; rwa [show σ546 86 38 = -1 by omega] at h9); exact qLI_s hi (by omega) (by decide) (by omega) hx582 (by omega) (fun _ => qap_mul (by omega) hev597 (by omega))) (by omega) (by omega)
        · skip
          refine qr_iload_n 24 rfl g544 rfl ?_
          refine qr_bipush 26 rfl (by decide) rfl ?_
          refine qr_icmp_eq 35 29 rfl rfl rfl hf553 (by decide) (fun h605 => ?_) (fun h605 => ?_)
          · skip
            have hdd3 : qtx_c (qtT (α 106) (α 107) (σ 86 35)) (σ 86 37) (σ546 86 36) = u545 ∧ σ546 86 36 < σ 86 37 := by omega
            refine qr_aload_n 36 rfl g541 rfl ?_
            refine qr_dup 37 rfl rfl rfl ?_
            refine qr_get 40 rfl rfl rfl (by decide) rfl ?_
            refine qr_iconst 41 rfl rfl ?_
            refine qr_iadd 42 rfl rfl ?_
            refine qr_put 45 rfl (by decide) rfl (Nat.le_of_ble_eq_true rfl) (Nat.le_of_ble_eq_true rfl) (Or.inl rfl) (qr_fitI rfl _) rfl ?_
            refine qy_wS (qw_s σ546 86 36 ((σ546 86 36) + 1)) rfl (fun σ606 e607 => ?_)
            have hI608 : qI σ606 α κ ρ := by rw [e607]; exact qI_s hI548 86 36 rfl (show 0 ≤ ((σ546 86 36) + 1) ∧ ((σ546 86 36) + 1) ≤ 120 by omega)
            have hF609 : qFr [(86, 36), (86, 38), (86, 39)] [] σ α σ606 α := by rw [e607]; exact qFr_s hF549 86 36 _ (by decide)
            refine qr_aload_n 46 rfl g541 rfl ?_
            have hs610 : 0 ≤ σ606 86 36 ∧ σ606 86 36 ≤ 120 := hI608.1 86 36
            have hs611 : σ606 86 36 = ((σ546 86 36) + 1) := (congrFun (congrFun e607 86) 36).trans rfl
            have hs612 : 0 ≤ σ606 86 37 ∧ σ606 86 37 ≤ 120 := hI608.1 86 37
            have hs613 : σ606 86 37 = (σ 86 37) := (congrFun (congrFun e607 86) 37).trans ((hk551).trans rfl)
            have hs614 : (-1) ≤ σ606 86 38 ∧ σ606 86 38 ≤ 120 := hI608.1 86 38
            have hs615 : σ606 86 38 = (σ546 86 38) := (congrFun (congrFun e607 86) 38).trans rfl
            have hs616 : 0 ≤ σ606 86 39 ∧ σ606 86 39 ≤ 6 := hI608.1 86 39
            have hs617 : σ606 86 39 = (σ546 86 39) := (congrFun (congrFun e607 86) 39).trans rfl
            refine qr_callN 49 rfl rfl rfl (ihC hI608 (by omega) (by omega) (by omega)) ?_
            have hs621 : 0 ≤ σ606 86 36 ∧ σ606 86 36 ≤ 120 := hI608.1 86 36
            have hs622 : σ606 86 36 = ((σ546 86 36) + 1) := (congrFun (congrFun e607 86) 36).trans rfl
            have hs623 : 0 ≤ σ606 86 37 ∧ σ606 86 37 ≤ 120 := hI608.1 86 37
            have hs624 : σ606 86 37 = (σ 86 37) := (congrFun (congrFun e607 86) 37).trans ((hk551).trans rfl)
            have hs625 : 0 ≤ σ606 86 39 ∧ σ606 86 39 ≤ 6 := hI608.1 86 39
            have hs626 : σ606 86 39 = (σ546 86 39) := (congrFun (congrFun e607 86) 39).trans rfl
            rintro _ _ ⟨σ627, rfl, hI628, hG629, v618, rfl, hv618, hp619, hx620⟩
            have hF630 : qFr [(86, 36), (86, 38), (86, 39)] [] σ α σ627 α := qFr_t hF609 hG629 (by decide) (by decide)
            have hs631 : 0 ≤ σ627 86 36 ∧ σ627 86 36 ≤ 120 := hI628.1 86 36
            have hs632 : (-1) ≤ σ627 86 38 ∧ σ627 86 38 ≤ 120 := hI628.1 86 38
            have hs633 : 0 ≤ σ627 86 39 ∧ σ627 86 39 ≤ 6 := hI628.1 86 39
            rw [hF609.1 86 37 (by decide), (show σ606 86 36 = ((σ546 86 36) + 1) from (congrFun (congrFun e607 86) 36).trans rfl), (show σ606 86 39 = (σ546 86 39) from (congrFun (congrFun e607 86) 39).trans rfl)] at hp619
            rw [hF609.1 86 35 (by decide), hF609.1 86 37 (by decide), (show σ606 86 36 = ((σ546 86 36) + 1) from (congrFun (congrFun e607 86) 36).trans rfl)] at hx620
            show qr_W (qe L xs vb) (d + 1) qx_e218 _ (49, _, [.int (qz v618)], qw σ627 α κ ρ, 0, 0)
            refine qr_istore_n _ 50 rfl (by decide) rfl rfl ?_
            refine qr_iload_n 51 rfl (qm_gk g544 (by decide) (Or.inr rfl)) rfl ?_
            refine qr_bipush 53 rfl (by decide) rfl ?_
            refine qr_icmp_ne 62 56 rfl rfl rfl hf553 (by decide) (fun h634 => ?_) (fun h => False.elim (by omega))
            refine qr_iload_n 63 rfl (qm_ge _ _ _) rfl ?_
            refine qr_if_ne 70 66 rfl rfl rfl hv618 (fun h635 => ?_) (fun h635 => ?_)
            · skip
              refine qr_iload_n 71 rfl (qm_gk g544 (by decide) (Or.inr rfl)) rfl ?_
              refine qr_bipush 73 rfl (by decide) rfl ?_
              refine qr_icmp_ne 82 76 rfl rfl rfl hf553 (by decide) (fun h => False.elim (by omega)) (fun h636 => ?_)
              refine qr_iload_n 77 rfl (qm_gk g542 (by decide) (Or.inl (by decide))) rfl ?_
              refine qr_iload_n 78 rfl (qm_ge _ _ _) rfl ?_
              refine qr_idivW 79 rfl (by omega) rfl ?_
              refine qy_canE (fun v637 hv637 hev637 => ?_)
              refine qr_goto 85 rfl rfl ?_
              refine qr_istore_n _ 86 rfl (by decide) rfl rfl ?_
              refine qr_aload_n 87 rfl (qm_gk (qm_gk g541 (by decide) (Or.inl (by decide))) (by decide) (Or.inr rfl)) rfl ?_
              refine qr_callN 90 rfl rfl rfl (sf_220_86x (d := d + 0) hI628 ) ?_
              have hs640 : (-1) ≤ σ627 86 35 ∧ σ627 86 35 ≤ 120 := hI628.1 86 35
              have hs641 : σ627 86 35 = (σ 86 35) := (hG629.1 86 35 (by decide)).trans ((congrFun (congrFun e607 86) 35).trans ((hk550).trans rfl))
              have hs642 : 0 ≤ σ627 86 36 ∧ σ627 86 36 ≤ 120 := hI628.1 86 36
              have hs643 : 0 ≤ σ627 86 37 ∧ σ627 86 37 ≤ 120 := hI628.1 86 37
              have hs644 : σ627 86 37 = (σ 86 37) := (hG629.1 86 37 (by decide)).trans ((congrFun (congrFun e607 86) 37).trans ((hk551).trans rfl))
              rintro _ _ ⟨rfl, v638, rfl, hv638, hp639⟩
              rw [hF630.1 86 35 (by decide), hF630.1 86 37 (by decide)] at hp639
              show qr_W (qe L xs vb) (d + 1) qx_e218 _ (90, _, [.int (qz v638)], qw σ627 α κ ρ, 0, 0)
              refine qr_istore_n _ 91 rfl (by decide) rfl rfl ?_
              refine qr_goto 10 rfl rfl ?_
              exact ih558 _ v637 v638 σ627 (by omega) (qm_gk (qm_gk (qm_gk g541 (by decide) (Or.inl (by decide))) (by decide) (Or.inr rfl)) (by decide) (Or.inl (by decide))) (qm_gk (qm_ge _ _ _) (by decide) (Or.inr rfl)) (qm_ge _ _ _) hv637 hv638 hI628 hF630 ((hG629.1 86 35 (by decide)).trans ((congrFun (congrFun e607 86) 35).trans ((hk550).trans rfl))) ((hG629.1 86 37 (by decide)).trans ((congrFun (congrFun e607 86) 37).trans ((hk551).trans rfl))) (by have hlo := qtx_lo_c (qtx_c (qtT (α 106) (α 107) (σ 86 35)) (σ 86 37) (σ546 86 36)); have hi : qLI (qtT (α 106) (α 107) (σ 86 35)) (σ 86 37) (qtx_lv (qtT (α 106) (α 107) (σ 86 35)) (σ 86 37) (fun b => qtx_on (qtT (α 106) (α 107) (σ 86 35)) (σ 86 37) (α 109) ro b) 0) 4 ((qtx_lv (qtT (α 106) (α 107) (σ 86 35)) (σ 86 37) (fun b => qtx_on (qtT (α 106) (α 107) (σ 86 35)) (σ 86 37) (α 109) ro b) (0 + 1)) (σ 86 36)) u543 (σ546 86 36) (-1) := (by have h9 := hx554; rwa [show σ546 86 38 = -1 by omega] at h9); exact qLI_s hi (by omega) (by decide) (by omega) hx620 (by omega) (fun _ => qap_div (by omega) (by omega) hev637 (by omega))) (by omega) (by omega)
            · skip
              refine qr_iconst 67 rfl rfl ?_
              refine qr_goto 85 rfl rfl ?_
              refine qr_istore_n _ 86 rfl (by decide) rfl rfl ?_
              refine qr_aload_n 87 rfl (qm_gk (qm_gk g541 (by decide) (Or.inl (by decide))) (by decide) (Or.inr rfl)) rfl ?_
              refine qr_callN 90 rfl rfl rfl (sf_220_86x (d := d + 0) hI628 ) ?_
              have hs647 : (-1) ≤ σ627 86 35 ∧ σ627 86 35 ≤ 120 := hI628.1 86 35
              have hs648 : σ627 86 35 = (σ 86 35) := (hG629.1 86 35 (by decide)).trans ((congrFun (congrFun e607 86) 35).trans ((hk550).trans rfl))
              have hs649 : 0 ≤ σ627 86 36 ∧ σ627 86 36 ≤ 120 := hI628.1 86 36
              have hs650 : 0 ≤ σ627 86 37 ∧ σ627 86 37 ≤ 120 := hI628.1 86 37
              have hs651 : σ627 86 37 = (σ 86 37) := (hG629.1 86 37 (by decide)).trans ((congrFun (congrFun e607 86) 37).trans ((hk551).trans rfl))
              rintro _ _ ⟨rfl, v645, rfl, hv645, hp646⟩
              rw [hF630.1 86 35 (by decide), hF630.1 86 37 (by decide)] at hp646
              show qr_W (qe L xs vb) (d + 1) qx_e218 _ (90, _, [.int (qz v645)], qw σ627 α κ ρ, 0, 0)
              refine qr_istore_n _ 91 rfl (by decide) rfl rfl ?_
              refine qr_goto 10 rfl rfl ?_
              exact ih558 _ 0 v645 σ627 (by omega) (qm_gk (qm_gk (qm_gk g541 (by decide) (Or.inl (by decide))) (by decide) (Or.inr rfl)) (by decide) (Or.inl (by decide))) (qm_gk (qm_ge _ _ _) (by decide) (Or.inr rfl)) (qm_ge _ _ _) (by decide) hv645 hI628 hF630 ((hG629.1 86 35 (by decide)).trans ((congrFun (congrFun e607 86) 35).trans ((hk550).trans rfl))) ((hG629.1 86 37 (by decide)).trans ((congrFun (congrFun e607 86) 37).trans ((hk551).trans rfl))) (by have hlo := qtx_lo_c (qtx_c (qtT (α 106) (α 107) (σ 86 35)) (σ 86 37) (σ546 86 36)); have hi : qLI (qtT (α 106) (α 107) (σ 86 35)) (σ 86 37) (qtx_lv (qtT (α 106) (α 107) (σ 86 35)) (σ 86 37) (fun b => qtx_on (qtT (α 106) (α 107) (σ 86 35)) (σ 86 37) (α 109) ro b) 0) 4 ((qtx_lv (qtT (α 106) (α 107) (σ 86 35)) (σ 86 37) (fun b => qtx_on (qtT (α 106) (α 107) (σ 86 35)) (σ 86 37) (α 109) ro b) (0 + 1)) (σ 86 36)) u543 (σ546 86 36) (-1) := (by have h9 := hx554; rwa [show σ546 86 38 = -1 by omega] at h9); exact qLI_s hi (by omega) (by decide) (by omega) hx620 (by omega) (fun _ => qap_z (by omega) (by omega))) (by omega) (by omega)
          · skip
            refine qr_iload_n 30 rfl g544 rfl ?_
            refine qr_bipush 32 rfl (by decide) rfl ?_
            refine qr_icmp_ne 94 35 rfl rfl rfl hf553 (by decide) (fun h652 => ?_) (fun h652 => ?_)
            · skip
              refine qr_iload_n 95 rfl g542 rfl ?_
              refine qr_retI rfl rfl (by decide) (by decide) ?_
              have hw653 : σ546 86 36 = (σ546 86 36) := rfl
              have hw654 : σ546 86 38 = (σ546 86 38) := rfl
              have hw655 : σ546 86 39 = (σ546 86 39) := rfl
              exact ⟨_, rfl, hI548, hF549, u543, rfl, hf552, by omega, (by exact (qLI_e hx554 (fun _ => by have hlo := qtx_lo_c (qtx_c (qtT (α 106) (α 107) (σ 86 35)) (σ 86 37) (σ546 86 36)); omega)))⟩
            · skip
              have hdd4 : qtx_c (qtT (α 106) (α 107) (σ 86 35)) (σ 86 37) (σ546 86 36) = u545 ∧ σ546 86 36 < σ 86 37 := by omega
              refine qr_aload_n 36 rfl g541 rfl ?_
              refine qr_dup 37 rfl rfl rfl ?_
              refine qr_get 40 rfl rfl rfl (by decide) rfl ?_
              refine qr_iconst 41 rfl rfl ?_
              refine qr_iadd 42 rfl rfl ?_
              refine qr_put 45 rfl (by decide) rfl (Nat.le_of_ble_eq_true rfl) (Nat.le_of_ble_eq_true rfl) (Or.inl rfl) (qr_fitI rfl _) rfl ?_
              refine qy_wS (qw_s σ546 86 36 ((σ546 86 36) + 1)) rfl (fun σ656 e657 => ?_)
              have hI658 : qI σ656 α κ ρ := by rw [e657]; exact qI_s hI548 86 36 rfl (show 0 ≤ ((σ546 86 36) + 1) ∧ ((σ546 86 36) + 1) ≤ 120 by omega)
              have hF659 : qFr [(86, 36), (86, 38), (86, 39)] [] σ α σ656 α := by rw [e657]; exact qFr_s hF549 86 36 _ (by decide)
              refine qr_aload_n 46 rfl g541 rfl ?_
              have hs660 : 0 ≤ σ656 86 36 ∧ σ656 86 36 ≤ 120 := hI658.1 86 36
              have hs661 : σ656 86 36 = ((σ546 86 36) + 1) := (congrFun (congrFun e657 86) 36).trans rfl
              have hs662 : 0 ≤ σ656 86 37 ∧ σ656 86 37 ≤ 120 := hI658.1 86 37
              have hs663 : σ656 86 37 = (σ 86 37) := (congrFun (congrFun e657 86) 37).trans ((hk551).trans rfl)
              have hs664 : (-1) ≤ σ656 86 38 ∧ σ656 86 38 ≤ 120 := hI658.1 86 38
              have hs665 : σ656 86 38 = (σ546 86 38) := (congrFun (congrFun e657 86) 38).trans rfl
              have hs666 : 0 ≤ σ656 86 39 ∧ σ656 86 39 ≤ 6 := hI658.1 86 39
              have hs667 : σ656 86 39 = (σ546 86 39) := (congrFun (congrFun e657 86) 39).trans rfl
              refine qr_callN 49 rfl rfl rfl (ihC hI658 (by omega) (by omega) (by omega)) ?_
              have hs671 : 0 ≤ σ656 86 36 ∧ σ656 86 36 ≤ 120 := hI658.1 86 36
              have hs672 : σ656 86 36 = ((σ546 86 36) + 1) := (congrFun (congrFun e657 86) 36).trans rfl
              have hs673 : 0 ≤ σ656 86 37 ∧ σ656 86 37 ≤ 120 := hI658.1 86 37
              have hs674 : σ656 86 37 = (σ 86 37) := (congrFun (congrFun e657 86) 37).trans ((hk551).trans rfl)
              have hs675 : 0 ≤ σ656 86 39 ∧ σ656 86 39 ≤ 6 := hI658.1 86 39
              have hs676 : σ656 86 39 = (σ546 86 39) := (congrFun (congrFun e657 86) 39).trans rfl
              rintro _ _ ⟨σ677, rfl, hI678, hG679, v668, rfl, hv668, hp669, hx670⟩
              have hF680 : qFr [(86, 36), (86, 38), (86, 39)] [] σ α σ677 α := qFr_t hF659 hG679 (by decide) (by decide)
              have hs681 : 0 ≤ σ677 86 36 ∧ σ677 86 36 ≤ 120 := hI678.1 86 36
              have hs682 : (-1) ≤ σ677 86 38 ∧ σ677 86 38 ≤ 120 := hI678.1 86 38
              have hs683 : 0 ≤ σ677 86 39 ∧ σ677 86 39 ≤ 6 := hI678.1 86 39
              rw [hF659.1 86 37 (by decide), (show σ656 86 36 = ((σ546 86 36) + 1) from (congrFun (congrFun e657 86) 36).trans rfl), (show σ656 86 39 = (σ546 86 39) from (congrFun (congrFun e657 86) 39).trans rfl)] at hp669
              rw [hF659.1 86 35 (by decide), hF659.1 86 37 (by decide), (show σ656 86 36 = ((σ546 86 36) + 1) from (congrFun (congrFun e657 86) 36).trans rfl)] at hx670
              show qr_W (qe L xs vb) (d + 1) qx_e218 _ (49, _, [.int (qz v668)], qw σ677 α κ ρ, 0, 0)
              refine qr_istore_n _ 50 rfl (by decide) rfl rfl ?_
              refine qr_iload_n 51 rfl (qm_gk g544 (by decide) (Or.inr rfl)) rfl ?_
              refine qr_bipush 53 rfl (by decide) rfl ?_
              refine qr_icmp_ne 62 56 rfl rfl rfl hf553 (by decide) (fun h684 => ?_) (fun h => False.elim (by omega))
              refine qr_iload_n 63 rfl (qm_ge _ _ _) rfl ?_
              refine qr_if_ne 70 66 rfl rfl rfl hv668 (fun h685 => ?_) (fun h685 => ?_)
              · skip
                refine qr_iload_n 71 rfl (qm_gk g544 (by decide) (Or.inr rfl)) rfl ?_
                refine qr_bipush 73 rfl (by decide) rfl ?_
                refine qr_icmp_ne 82 76 rfl rfl rfl hf553 (by decide) (fun h686 => ?_) (fun h => False.elim (by omega))
                refine qr_iload_n 83 rfl (qm_gk g542 (by decide) (Or.inl (by decide))) rfl ?_
                refine qr_iload_n 84 rfl (qm_ge _ _ _) rfl ?_
                refine qr_iremW 85 rfl (by omega) rfl ?_
                refine qy_canE (fun v687 hv687 hev687 => ?_)
                refine qr_istore_n _ 86 rfl (by decide) rfl rfl ?_
                refine qr_aload_n 87 rfl (qm_gk (qm_gk g541 (by decide) (Or.inl (by decide))) (by decide) (Or.inr rfl)) rfl ?_
                refine qr_callN 90 rfl rfl rfl (sf_220_86x (d := d + 0) hI678 ) ?_
                have hs690 : (-1) ≤ σ677 86 35 ∧ σ677 86 35 ≤ 120 := hI678.1 86 35
                have hs691 : σ677 86 35 = (σ 86 35) := (hG679.1 86 35 (by decide)).trans ((congrFun (congrFun e657 86) 35).trans ((hk550).trans rfl))
                have hs692 : 0 ≤ σ677 86 36 ∧ σ677 86 36 ≤ 120 := hI678.1 86 36
                have hs693 : 0 ≤ σ677 86 37 ∧ σ677 86 37 ≤ 120 := hI678.1 86 37
                have hs694 : σ677 86 37 = (σ 86 37) := (hG679.1 86 37 (by decide)).trans ((congrFun (congrFun e657 86) 37).trans ((hk551).trans rfl))
                rintro _ _ ⟨rfl, v688, rfl, hv688, hp689⟩
                rw [hF680.1 86 35 (by decide), hF680.1 86 37 (by decide)] at hp689
                show qr_W (qe L xs vb) (d + 1) qx_e218 _ (90, _, [.int (qz v688)], qw σ677 α κ ρ, 0, 0)
                refine qr_istore_n _ 91 rfl (by decide) rfl rfl ?_
                refine qr_goto 10 rfl rfl ?_
                exact ih558 _ v687 v688 σ677 (by omega) (qm_gk (qm_gk (qm_gk g541 (by decide) (Or.inl (by decide))) (by decide) (Or.inr rfl)) (by decide) (Or.inl (by decide))) (qm_gk (qm_ge _ _ _) (by decide) (Or.inr rfl)) (qm_ge _ _ _) hv687 hv688 hI678 hF680 ((hG679.1 86 35 (by decide)).trans ((congrFun (congrFun e657 86) 35).trans ((hk550).trans rfl))) ((hG679.1 86 37 (by decide)).trans ((congrFun (congrFun e657 86) 37).trans ((hk551).trans rfl))) (by have hlo := qtx_lo_c (qtx_c (qtT (α 106) (α 107) (σ 86 35)) (σ 86 37) (σ546 86 36)); have hi : qLI (qtT (α 106) (α 107) (σ 86 35)) (σ 86 37) (qtx_lv (qtT (α 106) (α 107) (σ 86 35)) (σ 86 37) (fun b => qtx_on (qtT (α 106) (α 107) (σ 86 35)) (σ 86 37) (α 109) ro b) 0) 4 ((qtx_lv (qtT (α 106) (α 107) (σ 86 35)) (σ 86 37) (fun b => qtx_on (qtT (α 106) (α 107) (σ 86 35)) (σ 86 37) (α 109) ro b) (0 + 1)) (σ 86 36)) u543 (σ546 86 36) (-1) := (by have h9 := hx554; rwa [show σ546 86 38 = -1 by omega] at h9); exact qLI_s hi (by omega) (by decide) (by omega) hx670 (by omega) (fun _ => qap_rem (by omega) (by omega) hev687 (by omega))) (by omega) (by omega)
              · skip
                refine qr_iconst 67 rfl rfl ?_
                refine qr_goto 85 rfl rfl ?_
                refine qr_istore_n _ 86 rfl (by decide) rfl rfl ?_
                refine qr_aload_n 87 rfl (qm_gk (qm_gk g541 (by decide) (Or.inl (by decide))) (by decide) (Or.inr rfl)) rfl ?_
                refine qr_callN 90 rfl rfl rfl (sf_220_86x (d := d + 0) hI678 ) ?_
                have hs697 : (-1) ≤ σ677 86 35 ∧ σ677 86 35 ≤ 120 := hI678.1 86 35
                have hs698 : σ677 86 35 = (σ 86 35) := (hG679.1 86 35 (by decide)).trans ((congrFun (congrFun e657 86) 35).trans ((hk550).trans rfl))
                have hs699 : 0 ≤ σ677 86 36 ∧ σ677 86 36 ≤ 120 := hI678.1 86 36
                have hs700 : 0 ≤ σ677 86 37 ∧ σ677 86 37 ≤ 120 := hI678.1 86 37
                have hs701 : σ677 86 37 = (σ 86 37) := (hG679.1 86 37 (by decide)).trans ((congrFun (congrFun e657 86) 37).trans ((hk551).trans rfl))
                rintro _ _ ⟨rfl, v695, rfl, hv695, hp696⟩
                rw [hF680.1 86 35 (by decide), hF680.1 86 37 (by decide)] at hp696
                show qr_W (qe L xs vb) (d + 1) qx_e218 _ (90, _, [.int (qz v695)], qw σ677 α κ ρ, 0, 0)
                refine qr_istore_n _ 91 rfl (by decide) rfl rfl ?_
                refine qr_goto 10 rfl rfl ?_
                exact ih558 _ 0 v695 σ677 (by omega) (qm_gk (qm_gk (qm_gk g541 (by decide) (Or.inl (by decide))) (by decide) (Or.inr rfl)) (by decide) (Or.inl (by decide))) (qm_gk (qm_ge _ _ _) (by decide) (Or.inr rfl)) (qm_ge _ _ _) (by decide) hv695 hI678 hF680 ((hG679.1 86 35 (by decide)).trans ((congrFun (congrFun e657 86) 35).trans ((hk550).trans rfl))) ((hG679.1 86 37 (by decide)).trans ((congrFun (congrFun e657 86) 37).trans ((hk551).trans rfl))) (by have hlo := qtx_lo_c (qtx_c (qtT (α 106) (α 107) (σ 86 35)) (σ 86 37) (σ546 86 36)); have hi : qLI (qtT (α 106) (α 107) (σ 86 35)) (σ 86 37) (qtx_lv (qtT (α 106) (α 107) (σ 86 35)) (σ 86 37) (fun b => qtx_on (qtT (α 106) (α 107) (σ 86 35)) (σ 86 37) (α 109) ro b) 0) 4 ((qtx_lv (qtT (α 106) (α 107) (σ 86 35)) (σ 86 37) (fun b => qtx_on (qtT (α 106) (α 107) (σ 86 35)) (σ 86 37) (α 109) ro b) (0 + 1)) (σ 86 36)) u543 (σ546 86 36) (-1) := (by have h9 := hx554; rwa [show σ546 86 38 = -1 by omega] at h9); exact qLI_s hi (by omega) (by decide) (by omega) hx670 (by omega) (fun _ => qap_z (by omega) (by omega))) (by omega) (by omega)
  exact hL557 ((((120 - σ11 86 36).toNat : Int) + 1 : Int)).toNat _ v5 v18 σ11 (by omega) rfl rfl rfl hv5 hv18 hI12 hF14 ((hG13.1 86 35 (by decide)).trans rfl) ((hG13.1 86 37 (by decide)).trans rfl) (by exact qLI_0 hx7 ⟨by omega, by omega⟩) (by omega) (by omega)

set_option maxHeartbeats 4000000 in
set_option maxRecDepth 20000 in
/-- OneRoofModel.sums -/
theorem sf_217_86x {L : Nat} {xs : Nat → Int} {vb : Bool} {d : Nat} {σ α : Nat → Nat → Int} {κ : Nat → Option Nat} {ρ : Nat} {ro : Nat} (ihC : ∀ {σ α : Nat → Nat → Int}, qI σ α κ ρ → σ 86 36 ≤ σ 86 37 → σ 86 38 = -1 → σ 86 39 + (ro : Int) = 6 → qm_T (qe L xs vb) (d + 1) 218 [.ref 86] (qw σ α κ ρ) (fun r w' => ∃ σ', w' = qw σ' α κ ρ ∧ qI σ' α κ ρ ∧ qFr [(86, 36), (86, 38), (86, 39)] [] σ α σ' α ∧ ∃ v : Int, r = some (.int (qz v)) ∧ ((-2147483648) ≤ v ∧ v ≤ 2147483647) ∧ (σ 86 36 ≤ σ' 86 36 ∧ σ' 86 36 ≤ σ 86 37 ∧ σ 86 39 ≤ σ' 86 39 ∧ ((σ' 86 38 = -1 ∧ σ' 86 39 = σ 86 39 ∧ σ 86 36 < σ' 86 36) ∨ σ' 86 38 = σ' 86 36)) ∧ qRes ((qtx_lv (qtT (α 106) (α 107) (σ 86 35)) (σ 86 37) (fun b => qtx_on (qtT (α 106) (α 107) (σ 86 35)) (σ 86 37) (α 109) ro b) 1) (σ 86 36)) v (σ' 86 36) (σ' 86 38))) (hI : qI σ α κ ρ) (p0 : σ 86 36 ≤ σ 86 37) (p1 : σ 86 38 = -1) (p2 : σ 86 39 + (ro : Int) = 6) : qm_T (qe L xs vb) (d + 2) 217 [.ref 86] (qw σ α κ ρ) (fun r w' => ∃ σ', w' = qw σ' α κ ρ ∧ qI σ' α κ ρ ∧ qFr [(86, 36), (86, 38), (86, 39)] [] σ α σ' α ∧ ∃ v : Int, r = some (.int (qz v)) ∧ ((-2147483648) ≤ v ∧ v ≤ 2147483647) ∧ (σ 86 36 ≤ σ' 86 36 ∧ σ' 86 36 ≤ σ 86 37 ∧ σ 86 39 ≤ σ' 86 39 ∧ ((σ' 86 38 = -1 ∧ σ' 86 39 = σ 86 39 ∧ σ 86 36 < σ' 86 36) ∨ σ' 86 38 = σ' 86 36)) ∧ qRes ((qtx_lv (qtT (α 106) (α 107) (σ 86 35)) (σ 86 37) (fun b => qtx_on (qtT (α 106) (α 107) (σ 86 35)) (σ 86 37) (α 109) ro b) (1 + 1)) (σ 86 36)) v (σ' 86 36) (σ' 86 38)) := by
  refine qr_start (d := d + 1) qv_e217 (Nat.le_of_ble_eq_true rfl) ?_
  show qr_W (qe L xs vb) (d + 1) qx_e217 _ (0, [(0, .ref 86)], [], _, 0, 0)
  have hF0 := qFr_rf [(86, 36), (86, 38), (86, 39)] [] σ α
  have hz86_36 : 0 ≤ σ 86 36 ∧ σ 86 36 ≤ 120 := hI.1 86 36
  have hz86_37 : 0 ≤ σ 86 37 ∧ σ 86 37 ≤ 120 := hI.1 86 37
  have hz86_39 : 0 ≤ σ 86 39 ∧ σ 86 39 ≤ 6 := hI.1 86 39
  have hz86_38 : (-1) ≤ σ 86 38 ∧ σ 86 38 ≤ 120 := hI.1 86 38
  have hz86_35 : (-1) ≤ σ 86 35 ∧ σ 86 35 ≤ 120 := hI.1 86 35
  refine qr_aload_n 1 rfl rfl rfl ?_
  have hs1 : 0 ≤ σ 86 36 ∧ σ 86 36 ≤ 120 := hI.1 86 36
  have hs2 : 0 ≤ σ 86 37 ∧ σ 86 37 ≤ 120 := hI.1 86 37
  have hs3 : (-1) ≤ σ 86 38 ∧ σ 86 38 ≤ 120 := hI.1 86 38
  have hs4 : 0 ≤ σ 86 39 ∧ σ 86 39 ≤ 6 := hI.1 86 39
  refine qr_callN 4 rfl rfl rfl (ihC hI (by omega) (by omega) (by omega)) ?_
  have hs8 : 0 ≤ σ 86 36 ∧ σ 86 36 ≤ 120 := hI.1 86 36
  have hs9 : 0 ≤ σ 86 37 ∧ σ 86 37 ≤ 120 := hI.1 86 37
  have hs10 : 0 ≤ σ 86 39 ∧ σ 86 39 ≤ 6 := hI.1 86 39
  rintro _ _ ⟨σ11, rfl, hI12, hG13, v5, rfl, hv5, hp6, hx7⟩
  have hF14 : qFr [(86, 36), (86, 38), (86, 39)] [] σ α σ11 α := qFr_t hF0 hG13 (by decide) (by decide)
  have hs15 : 0 ≤ σ11 86 36 ∧ σ11 86 36 ≤ 120 := hI12.1 86 36
  have hs16 : (-1) ≤ σ11 86 38 ∧ σ11 86 38 ≤ 120 := hI12.1 86 38
  have hs17 : 0 ≤ σ11 86 39 ∧ σ11 86 39 ≤ 6 := hI12.1 86 39
  show qr_W (qe L xs vb) (d + 1) qx_e217 _ (4, _, [.int (qz v5)], qw σ11 α κ ρ, 0, 0)
  refine qr_istore_n _ 5 rfl (by decide) rfl rfl ?_
  have hL634 : ∀ (n : Nat) (ls : qm_L) (u624 : Int) (σ625 : Nat → Nat → Int), ((120 - σ625 86 36).toNat : Int) < (n : Int) → qm_get ls 0 = some (.ref 86) → qm_get ls 1 = some (.int (qz u624)) → ((-2147483648) ≤ u624 ∧ u624 ≤ 2147483647) → qI σ625 α κ ρ → qFr [(86, 36), (86, 38), (86, 39)] [] σ α σ625 α → σ625 86 35 = (σ 86 35) → σ625 86 37 = (σ 86 37) → qLI (qtT (α 106) (α 107) (σ 86 35)) (σ 86 37) (qtx_lv (qtT (α 106) (α 107) (σ 86 35)) (σ 86 37) (fun b => qtx_on (qtT (α 106) (α 107) (σ 86 35)) (σ 86 37) (α 109) ro b) 1) 3 ((qtx_lv (qtT (α 106) (α 107) (σ 86 35)) (σ 86 37) (fun b => qtx_on (qtT (α 106) (α 107) (σ 86 35)) (σ 86 37) (α 109) ro b) (1 + 1)) (σ 86 36)) u624 (σ625 86 36) (σ625 86 38) → (σ 86 36 ≤ σ625 86 36 ∧ σ625 86 36 ≤ σ 86 37 ∧ σ 86 39 ≤ σ625 86 39 ∧ ((σ625 86 38 = -1 ∧ σ625 86 39 = σ 86 39 ∧ σ 86 36 < σ625 86 36) ∨ σ625 86 38 = σ625 86 36)) → qr_W (qe L xs vb) (d + 1) qx_e217 (fun r w' => ∃ σ', w' = qw σ' α κ ρ ∧ qI σ' α κ ρ ∧ qFr [(86, 36), (86, 38), (86, 39)] [] σ α σ' α ∧ ∃ v : Int, r = some (.int (qz v)) ∧ ((-2147483648) ≤ v ∧ v ≤ 2147483647) ∧ (σ 86 36 ≤ σ' 86 36 ∧ σ' 86 36 ≤ σ 86 37 ∧ σ 86 39 ≤ σ' 86 39 ∧ ((σ' 86 38 = -1 ∧ σ' 86 39 = σ 86 39 ∧ σ 86 36 < σ' 86 36) ∨ σ' 86 38 = σ' 86 36)) ∧ qRes ((qtx_lv (qtT (α 106) (α 107) (σ 86 35)) (σ 86 37) (fun b => qtx_on (qtT (α 106) (α 107) (σ 86 35)) (σ 86 37) (α 109) ro b) (1 + 1)) (σ 86 36)) v (σ' 86 36) (σ' 86 38)) (5, ls, [], qw σ625 α κ ρ, 0, 0) := by
    clear hp6
    intro n
    induction n with
    | zero => intro ls u624 σ625 hm g622 g623 hf631 hI627 hF628 hk629 hk630 hx632 hx633; exact False.elim (by omega)
    | succ n ih635 =>
      intro ls u624 σ625 hm g622 g623 hf631 hI627 hF628 hk629 hk630 hx632 hx633
      have hs636 : 0 ≤ σ625 86 36 ∧ σ625 86 36 ≤ 120 := hI627.1 86 36
      have hs637 : (-1) ≤ σ625 86 38 ∧ σ625 86 38 ≤ 120 := hI627.1 86 38
      have hs638 : 0 ≤ σ625 86 39 ∧ σ625 86 39 ≤ 6 := hI627.1 86 39
      have hcc639 := qtx_c_2 (qtT (α 106) (α 107) (σ 86 35)) (σ 86 37) (σ625 86 36)
      refine qr_aload_n 6 rfl g622 rfl ?_
      refine qr_get 9 rfl rfl rfl (by decide) rfl ?_
      refine qr_if_ge 77 12 rfl rfl rfl (by omega) (fun h640 => ?_) (fun h640 => ?_)
      · skip
        refine qr_iload_n 78 rfl g623 rfl ?_
        refine qr_retI rfl rfl (by decide) (by decide) ?_
        have hw641 : σ625 86 36 = (σ625 86 36) := rfl
        have hw642 : σ625 86 38 = (σ625 86 38) := rfl
        have hw643 : σ625 86 39 = (σ625 86 39) := rfl
        exact ⟨_, rfl, hI627, hF628, u624, rfl, hf631, by omega, (by exact (qLI_e hx632 (fun _ => by have hlo := qtx_lo_c (qtx_c (qtT (α 106) (α 107) (σ 86 35)) (σ 86 37) (σ625 86 36)); omega)))⟩
      · skip
        have hdd5 : σ625 86 38 = -1 ∧ σ625 86 39 = σ 86 39 ∧ σ 86 36 < σ625 86 36 := by omega
        refine qr_aload_n 13 rfl g622 rfl ?_
        refine qr_callN 16 rfl rfl rfl (sf_220_86x (d := d + 0) hI627 ) ?_
        have hs646 : (-1) ≤ σ625 86 35 ∧ σ625 86 35 ≤ 120 := hI627.1 86 35
        have hs647 : σ625 86 35 = (σ 86 35) := (hk629).trans rfl
        have hs648 : 0 ≤ σ625 86 36 ∧ σ625 86 36 ≤ 120 := hI627.1 86 36
        have hs649 : 0 ≤ σ625 86 37 ∧ σ625 86 37 ≤ 120 := hI627.1 86 37
        have hs650 : σ625 86 37 = (σ 86 37) := (hk630).trans rfl
        rintro _ _ ⟨rfl, v644, rfl, hv644, hp645⟩
        rw [hF628.1 86 35 (by decide), hF628.1 86 37 (by decide)] at hp645
        show qr_W (qe L xs vb) (d + 1) qx_e217 _ (16, _, [.int (qz v644)], qw σ625 α κ ρ, 0, 0)
        refine qr_bipush 18 rfl (by decide) rfl ?_
        refine qr_icmp_eq 30 21 rfl rfl rfl hv644 (by decide) (fun h651 => ?_) (fun h651 => ?_)
        · skip
          have hdd6 : qtx_c (qtT (α 106) (α 107) (σ 86 35)) (σ 86 37) (σ625 86 36) = v644 ∧ σ625 86 36 < σ 86 37 := by omega
          refine qr_aload_n 31 rfl g622 rfl ?_
          refine qr_callN 34 rfl rfl rfl (sf_220_86x (d := d + 0) hI627 ) ?_
          have hs654 : (-1) ≤ σ625 86 35 ∧ σ625 86 35 ≤ 120 := hI627.1 86 35
          have hs655 : σ625 86 35 = (σ 86 35) := (hk629).trans rfl
          have hs656 : 0 ≤ σ625 86 36 ∧ σ625 86 36 ≤ 120 := hI627.1 86 36
          have hs657 : 0 ≤ σ625 86 37 ∧ σ625 86 37 ≤ 120 := hI627.1 86 37
          have hs658 : σ625 86 37 = (σ 86 37) := (hk630).trans rfl
          rintro _ _ ⟨rfl, v652, rfl, hv652, hp653⟩
          rw [hF628.1 86 35 (by decide), hF628.1 86 37 (by decide)] at hp653
          show qr_W (qe L xs vb) (d + 1) qx_e217 _ (34, _, [.int (qz v652)], qw σ625 α κ ρ, 0, 0)
          refine qr_bipush 36 rfl (by decide) rfl ?_
          refine qr_icmp_ne 43 39 rfl rfl rfl hv652 (by decide) (fun h659 => ?_) (fun h659 => ?_)
          · skip
            refine qr_iconst 44 rfl rfl ?_
            refine qr_istore_n _ 45 rfl (by decide) rfl rfl ?_
            refine qr_aload_n 46 rfl (qm_gk g622 (by decide) (Or.inl (by decide))) rfl ?_
            refine qr_dup 47 rfl rfl rfl ?_
            refine qr_get 50 rfl rfl rfl (by decide) rfl ?_
            refine qr_iconst 51 rfl rfl ?_
            refine qr_iadd 52 rfl rfl ?_
            refine qr_put 55 rfl (by decide) rfl (Nat.le_of_ble_eq_true rfl) (Nat.le_of_ble_eq_true rfl) (Or.inl rfl) (qr_fitI rfl _) rfl ?_
            refine qy_wS (qw_s σ625 86 36 ((σ625 86 36) + 1)) rfl (fun σ660 e661 => ?_)
            have hI662 : qI σ660 α κ ρ := by rw [e661]; exact qI_s hI627 86 36 rfl (show 0 ≤ ((σ625 86 36) + 1) ∧ ((σ625 86 36) + 1) ≤ 120 by omega)
            have hF663 : qFr [(86, 36), (86, 38), (86, 39)] [] σ α σ660 α := by rw [e661]; exact qFr_s hF628 86 36 _ (by decide)
            refine qr_aload_n 56 rfl (qm_gk g622 (by decide) (Or.inl (by decide))) rfl ?_
            have hs664 : 0 ≤ σ660 86 36 ∧ σ660 86 36 ≤ 120 := hI662.1 86 36
            have hs665 : σ660 86 36 = ((σ625 86 36) + 1) := (congrFun (congrFun e661 86) 36).trans rfl
            have hs666 : 0 ≤ σ660 86 37 ∧ σ660 86 37 ≤ 120 := hI662.1 86 37
            have hs667 : σ660 86 37 = (σ 86 37) := (congrFun (congrFun e661 86) 37).trans ((hk630).trans rfl)
            have hs668 : (-1) ≤ σ660 86 38 ∧ σ660 86 38 ≤ 120 := hI662.1 86 38
            have hs669 : σ660 86 38 = (σ625 86 38) := (congrFun (congrFun e661 86) 38).trans rfl
            have hs670 : 0 ≤ σ660 86 39 ∧ σ660 86 39 ≤ 6 := hI662.1 86 39
            have hs671 : σ660 86 39 = (σ625 86 39) := (congrFun (congrFun e661 86) 39).trans rfl
            refine qr_callN 59 rfl rfl rfl (ihC hI662 (by omega) (by omega) (by omega)) ?_
            have hs675 : 0 ≤ σ660 86 36 ∧ σ660 86 36 ≤ 120 := hI662.1 86 36
            have hs676 : σ660 86 36 = ((σ625 86 36) + 1) := (congrFun (congrFun e661 86) 36).trans rfl
            have hs677 : 0 ≤ σ660 86 37 ∧ σ660 86 37 ≤ 120 := hI662.1 86 37
            have hs678 : σ660 86 37 = (σ 86 37) := (congrFun (congrFun e661 86) 37).trans ((hk630).trans rfl)
            have hs679 : 0 ≤ σ660 86 39 ∧ σ660 86 39 ≤ 6 := hI662.1 86 39
            have hs680 : σ660 86 39 = (σ625 86 39) := (congrFun (congrFun e661 86) 39).trans rfl
            rintro _ _ ⟨σ681, rfl, hI682, hG683, v672, rfl, hv672, hp673, hx674⟩
            have hF684 : qFr [(86, 36), (86, 38), (86, 39)] [] σ α σ681 α := qFr_t hF663 hG683 (by decide) (by decide)
            have hs685 : 0 ≤ σ681 86 36 ∧ σ681 86 36 ≤ 120 := hI682.1 86 36
            have hs686 : (-1) ≤ σ681 86 38 ∧ σ681 86 38 ≤ 120 := hI682.1 86 38
            have hs687 : 0 ≤ σ681 86 39 ∧ σ681 86 39 ≤ 6 := hI682.1 86 39
            rw [hF663.1 86 37 (by decide), (show σ660 86 36 = ((σ625 86 36) + 1) from (congrFun (congrFun e661 86) 36).trans rfl), (show σ660 86 39 = (σ625 86 39) from (congrFun (congrFun e661 86) 39).trans rfl)] at hp673
            rw [hF663.1 86 35 (by decide), hF663.1 86 37 (by decide), (show σ660 86 36 = ((σ625 86 36) + 1) from (congrFun (congrFun e661 86) 36).trans rfl)] at hx674
            show qr_W (qe L xs vb) (d + 1) qx_e217 _ (59, _, [.int (qz v672)], qw σ681 α κ ρ, 0, 0)
            refine qr_istore_n _ 60 rfl (by decide) rfl rfl ?_
            refine qr_iload_n 61 rfl (qm_gk (qm_ge _ _ _) (by decide) (Or.inr rfl)) rfl ?_
            refine qr_if_eq 70 64 rfl rfl rfl (by decide) (fun h688 => ?_) (fun h => False.elim (by omega))
            refine qr_iload_n 71 rfl (qm_gk (qm_gk g623 (by decide) (Or.inr rfl)) (by decide) (Or.inl (by decide))) rfl ?_
            refine qr_iload_n 72 rfl (qm_ge _ _ _) rfl ?_
            refine qr_isub 73 rfl rfl ?_
            refine qy_canE (fun v689 hv689 hev689 => ?_)
            refine qr_istore_n _ 74 rfl (by decide) rfl rfl ?_
            refine qr_goto 5 rfl rfl ?_
            exact ih635 _ v689 σ681 (by omega) (qm_gk (qm_gk (qm_gk g622 (by decide) (Or.inl (by decide))) (by decide) (Or.inl (by decide))) (by decide) (Or.inr rfl)) (qm_ge _ _ _) hv689 hI682 hF684 ((hG683.1 86 35 (by decide)).trans ((congrFun (congrFun e661 86) 35).trans ((hk629).trans rfl))) ((hG683.1 86 37 (by decide)).trans ((congrFun (congrFun e661 86) 37).trans ((hk630).trans rfl))) (by have hlo := qtx_lo_c (qtx_c (qtT (α 106) (α 107) (σ 86 35)) (σ 86 37) (σ625 86 36)); have hi : qLI (qtT (α 106) (α 107) (σ 86 35)) (σ 86 37) (qtx_lv (qtT (α 106) (α 107) (σ 86 35)) (σ 86 37) (fun b => qtx_on (qtT (α 106) (α 107) (σ 86 35)) (σ 86 37) (α 109) ro b) 1) 3 ((qtx_lv (qtT (α 106) (α 107) (σ 86 35)) (σ 86 37) (fun b => qtx_on (qtT (α 106) (α 107) (σ 86 35)) (σ 86 37) (α 109) ro b) (1 + 1)) (σ 86 36)) u624 (σ625 86 36) (-1) := (by have h9 := hx632; rwa [show σ625 86 38 = -1 by omega] at h9); exact qLI_s hi (by omega) (by decide) (by omega) hx674 (by omega) (fun _ => qap_sub (by omega) hev689 (by omega))) (by omega)
          · skip
            refine qr_iconst 40 rfl rfl ?_
            refine qr_goto 44 rfl rfl ?_
            refine qr_istore_n _ 45 rfl (by decide) rfl rfl ?_
            refine qr_aload_n 46 rfl (qm_gk g622 (by decide) (Or.inl (by decide))) rfl ?_
            refine qr_dup 47 rfl rfl rfl ?_
            refine qr_get 50 rfl rfl rfl (by decide) rfl ?_
            refine qr_iconst 51 rfl rfl ?_
            refine qr_iadd 52 rfl rfl ?_
            refine qr_put 55 rfl (by decide) rfl (Nat.le_of_ble_eq_true rfl) (Nat.le_of_ble_eq_true rfl) (Or.inl rfl) (qr_fitI rfl _) rfl ?_
            refine qy_wS (qw_s σ625 86 36 ((σ625 86 36) + 1)) rfl (fun σ690 e691 => ?_)
            have hI692 : qI σ690 α κ ρ := by rw [e691]; exact qI_s hI627 86 36 rfl (show 0 ≤ ((σ625 86 36) + 1) ∧ ((σ625 86 36) + 1) ≤ 120 by omega)
            have hF693 : qFr [(86, 36), (86, 38), (86, 39)] [] σ α σ690 α := by rw [e691]; exact qFr_s hF628 86 36 _ (by decide)
            refine qr_aload_n 56 rfl (qm_gk g622 (by decide) (Or.inl (by decide))) rfl ?_
            have hs694 : 0 ≤ σ690 86 36 ∧ σ690 86 36 ≤ 120 := hI692.1 86 36
            have hs695 : σ690 86 36 = ((σ625 86 36) + 1) := (congrFun (congrFun e691 86) 36).trans rfl
            have hs696 : 0 ≤ σ690 86 37 ∧ σ690 86 37 ≤ 120 := hI692.1 86 37
            have hs697 : σ690 86 37 = (σ 86 37) := (congrFun (congrFun e691 86) 37).trans ((hk630).trans rfl)
            have hs698 : (-1) ≤ σ690 86 38 ∧ σ690 86 38 ≤ 120 := hI692.1 86 38
            have hs699 : σ690 86 38 = (σ625 86 38) := (congrFun (congrFun e691 86) 38).trans rfl
            have hs700 : 0 ≤ σ690 86 39 ∧ σ690 86 39 ≤ 6 := hI692.1 86 39
            have hs701 : σ690 86 39 = (σ625 86 39) := (congrFun (congrFun e691 86) 39).trans rfl
            refine qr_callN 59 rfl rfl rfl (ihC hI692 (by omega) (by omega) (by omega)) ?_
            have hs705 : 0 ≤ σ690 86 36 ∧ σ690 86 36 ≤ 120 := hI692.1 86 36
            have hs706 : σ690 86 36 = ((σ625 86 36) + 1) := (congrFun (congrFun e691 86) 36).trans rfl
            have hs707 : 0 ≤ σ690 86 37 ∧ σ690 86 37 ≤ 120 := hI692.1 86 37
            have hs708 : σ690 86 37 = (σ 86 37) := (congrFun (congrFun e691 86) 37).trans ((hk630).trans rfl)
            have hs709 : 0 ≤ σ690 86 39 ∧ σ690 86 39 ≤ 6 := hI692.1 86 39
            have hs710 : σ690 86 39 = (σ625 86 39) := (congrFun (congrFun e691 86) 39).trans rfl
            rintro _ _ ⟨σ711, rfl, hI712, hG713, v702, rfl, hv702, hp703, hx704⟩
            have hF714 : qFr [(86, 36), (86, 38), (86, 39)] [] σ α σ711 α := qFr_t hF693 hG713 (by decide) (by decide)
            have hs715 : 0 ≤ σ711 86 36 ∧ σ711 86 36 ≤ 120 := hI712.1 86 36
            have hs716 : (-1) ≤ σ711 86 38 ∧ σ711 86 38 ≤ 120 := hI712.1 86 38
            have hs717 : 0 ≤ σ711 86 39 ∧ σ711 86 39 ≤ 6 := hI712.1 86 39
            rw [hF693.1 86 37 (by decide), (show σ690 86 36 = ((σ625 86 36) + 1) from (congrFun (congrFun e691 86) 36).trans rfl), (show σ690 86 39 = (σ625 86 39) from (congrFun (congrFun e691 86) 39).trans rfl)] at hp703
            rw [hF693.1 86 35 (by decide), hF693.1 86 37 (by decide), (show σ690 86 36 = ((σ625 86 36) + 1) from (congrFun (congrFun e691 86) 36).trans rfl)] at hx704
            show qr_W (qe L xs vb) (d + 1) qx_e217 _ (59, _, [.int (qz v702)], qw σ711 α κ ρ, 0, 0)
            refine qr_istore_n _ 60 rfl (by decide) rfl rfl ?_
            refine qr_iload_n 61 rfl (qm_gk (qm_ge _ _ _) (by decide) (Or.inr rfl)) rfl ?_
            refine qr_if_eq 70 64 rfl rfl rfl (by decide) (fun h => False.elim (by omega)) (fun h718 => ?_)
            refine qr_iload_n 65 rfl (qm_gk (qm_gk g623 (by decide) (Or.inr rfl)) (by decide) (Or.inl (by decide))) rfl ?_
            refine qr_iload_n 66 rfl (qm_ge _ _ _) rfl ?_
            refine qr_iadd 67 rfl rfl ?_
            refine qy_canE (fun v719 hv719 hev719 => ?_)
            refine qr_goto 73 rfl rfl ?_
            refine qr_istore_n _ 74 rfl (by decide) rfl rfl ?_
            refine qr_goto 5 rfl rfl ?_
            exact ih635 _ v719 σ711 (by omega) (qm_gk (qm_gk (qm_gk g622 (by decide) (Or.inl (by decide))) (by decide) (Or.inl (by decide))) (by decide) (Or.inr rfl)) (qm_ge _ _ _) hv719 hI712 hF714 ((hG713.1 86 35 (by decide)).trans ((congrFun (congrFun e691 86) 35).trans ((hk629).trans rfl))) ((hG713.1 86 37 (by decide)).trans ((congrFun (congrFun e691 86) 37).trans ((hk630).trans rfl))) (by have hlo := qtx_lo_c (qtx_c (qtT (α 106) (α 107) (σ 86 35)) (σ 86 37) (σ625 86 36)); have hi : qLI (qtT (α 106) (α 107) (σ 86 35)) (σ 86 37) (qtx_lv (qtT (α 106) (α 107) (σ 86 35)) (σ 86 37) (fun b => qtx_on (qtT (α 106) (α 107) (σ 86 35)) (σ 86 37) (α 109) ro b) 1) 3 ((qtx_lv (qtT (α 106) (α 107) (σ 86 35)) (σ 86 37) (fun b => qtx_on (qtT (α 106) (α 107) (σ 86 35)) (σ 86 37) (α 109) ro b) (1 + 1)) (σ 86 36)) u624 (σ625 86 36) (-1) := (by have h9 := hx632; rwa [show σ625 86 38 = -1 by omega] at h9); exact qLI_s hi (by omega) (by decide) (by omega) hx704 (by omega) (fun _ => qap_add (by omega) hev719 (by omega))) (by omega)
        · skip
          refine qr_aload_n 22 rfl g622 rfl ?_
          refine qr_callN 25 rfl rfl rfl (sf_220_86x (d := d + 0) hI627 ) ?_
          have hs722 : (-1) ≤ σ625 86 35 ∧ σ625 86 35 ≤ 120 := hI627.1 86 35
          have hs723 : σ625 86 35 = (σ 86 35) := (hk629).trans rfl
          have hs724 : 0 ≤ σ625 86 36 ∧ σ625 86 36 ≤ 120 := hI627.1 86 36
          have hs725 : 0 ≤ σ625 86 37 ∧ σ625 86 37 ≤ 120 := hI627.1 86 37
          have hs726 : σ625 86 37 = (σ 86 37) := (hk630).trans rfl
          rintro _ _ ⟨rfl, v720, rfl, hv720, hp721⟩
          rw [hF628.1 86 35 (by decide), hF628.1 86 37 (by decide)] at hp721
          show qr_W (qe L xs vb) (d + 1) qx_e217 _ (25, _, [.int (qz v720)], qw σ625 α κ ρ, 0, 0)
          refine qr_bipush 27 rfl (by decide) rfl ?_
          refine qr_icmp_ne 77 30 rfl rfl rfl hv720 (by decide) (fun h727 => ?_) (fun h727 => ?_)
          · skip
            refine qr_iload_n 78 rfl g623 rfl ?_
            refine qr_retI rfl rfl (by decide) (by decide) ?_
            have hw728 : σ625 86 36 = (σ625 86 36) := rfl
            have hw729 : σ625 86 38 = (σ625 86 38) := rfl
            have hw730 : σ625 86 39 = (σ625 86 39) := rfl
            exact ⟨_, rfl, hI627, hF628, u624, rfl, hf631, by omega, (by exact (qLI_e hx632 (fun _ => by have hlo := qtx_lo_c (qtx_c (qtT (α 106) (α 107) (σ 86 35)) (σ 86 37) (σ625 86 36)); omega)))⟩
          · skip
            have hdd7 : qtx_c (qtT (α 106) (α 107) (σ 86 35)) (σ 86 37) (σ625 86 36) = v720 ∧ σ625 86 36 < σ 86 37 := by omega
            refine qr_aload_n 31 rfl g622 rfl ?_
            refine qr_callN 34 rfl rfl rfl (sf_220_86x (d := d + 0) hI627 ) ?_
            have hs733 : (-1) ≤ σ625 86 35 ∧ σ625 86 35 ≤ 120 := hI627.1 86 35
            have hs734 : σ625 86 35 = (σ 86 35) := (hk629).trans rfl
            have hs735 : 0 ≤ σ625 86 36 ∧ σ625 86 36 ≤ 120 := hI627.1 86 36
            have hs736 : 0 ≤ σ625 86 37 ∧ σ625 86 37 ≤ 120 := hI627.1 86 37
            have hs737 : σ625 86 37 = (σ 86 37) := (hk630).trans rfl
            rintro _ _ ⟨rfl, v731, rfl, hv731, hp732⟩
            rw [hF628.1 86 35 (by decide), hF628.1 86 37 (by decide)] at hp732
            show qr_W (qe L xs vb) (d + 1) qx_e217 _ (34, _, [.int (qz v731)], qw σ625 α κ ρ, 0, 0)
            refine qr_bipush 36 rfl (by decide) rfl ?_
            refine qr_icmp_ne 43 39 rfl rfl rfl hv731 (by decide) (fun h738 => ?_) (fun h738 => ?_)
            · skip
              refine qr_iconst 44 rfl rfl ?_
              refine qr_istore_n _ 45 rfl (by decide) rfl rfl ?_
              refine qr_aload_n 46 rfl (qm_gk g622 (by decide) (Or.inl (by decide))) rfl ?_
              refine qr_dup 47 rfl rfl rfl ?_
              refine qr_get 50 rfl rfl rfl (by decide) rfl ?_
              refine qr_iconst 51 rfl rfl ?_
              refine qr_iadd 52 rfl rfl ?_
              refine qr_put 55 rfl (by decide) rfl (Nat.le_of_ble_eq_true rfl) (Nat.le_of_ble_eq_true rfl) (Or.inl rfl) (qr_fitI rfl _) rfl ?_
              refine qy_wS (qw_s σ625 86 36 ((σ625 86 36) + 1)) rfl (fun σ739 e740 => ?_)
              have hI741 : qI σ739 α κ ρ := by rw [e740]; exact qI_s hI627 86 36 rfl (show 0 ≤ ((σ625 86 36) + 1) ∧ ((σ625 86 36) + 1) ≤ 120 by omega)
              have hF742 : qFr [(86, 36), (86, 38), (86, 39)] [] σ α σ739 α := by rw [e740]; exact qFr_s hF628 86 36 _ (by decide)
              refine qr_aload_n 56 rfl (qm_gk g622 (by decide) (Or.inl (by decide))) rfl ?_
              have hs743 : 0 ≤ σ739 86 36 ∧ σ739 86 36 ≤ 120 := hI741.1 86 36
              have hs744 : σ739 86 36 = ((σ625 86 36) + 1) := (congrFun (congrFun e740 86) 36).trans rfl
              have hs745 : 0 ≤ σ739 86 37 ∧ σ739 86 37 ≤ 120 := hI741.1 86 37
              have hs746 : σ739 86 37 = (σ 86 37) := (congrFun (congrFun e740 86) 37).trans ((hk630).trans rfl)
              have hs747 : (-1) ≤ σ739 86 38 ∧ σ739 86 38 ≤ 120 := hI741.1 86 38
              have hs748 : σ739 86 38 = (σ625 86 38) := (congrFun (congrFun e740 86) 38).trans rfl
              have hs749 : 0 ≤ σ739 86 39 ∧ σ739 86 39 ≤ 6 := hI741.1 86 39
              have hs750 : σ739 86 39 = (σ625 86 39) := (congrFun (congrFun e740 86) 39).trans rfl
              refine qr_callN 59 rfl rfl rfl (ihC hI741 (by omega) (by omega) (by omega)) ?_
              have hs754 : 0 ≤ σ739 86 36 ∧ σ739 86 36 ≤ 120 := hI741.1 86 36
              have hs755 : σ739 86 36 = ((σ625 86 36) + 1) := (congrFun (congrFun e740 86) 36).trans rfl
              have hs756 : 0 ≤ σ739 86 37 ∧ σ739 86 37 ≤ 120 := hI741.1 86 37
              have hs757 : σ739 86 37 = (σ 86 37) := (congrFun (congrFun e740 86) 37).trans ((hk630).trans rfl)
              have hs758 : 0 ≤ σ739 86 39 ∧ σ739 86 39 ≤ 6 := hI741.1 86 39
              have hs759 : σ739 86 39 = (σ625 86 39) := (congrFun (congrFun e740 86) 39).trans rfl
              rintro _ _ ⟨σ760, rfl, hI761, hG762, v751, rfl, hv751, hp752, hx753⟩
              have hF763 : qFr [(86, 36), (86, 38), (86, 39)] [] σ α σ760 α := qFr_t hF742 hG762 (by decide) (by decide)
              have hs764 : 0 ≤ σ760 86 36 ∧ σ760 86 36 ≤ 120 := hI761.1 86 36
              have hs765 : (-1) ≤ σ760 86 38 ∧ σ760 86 38 ≤ 120 := hI761.1 86 38
              have hs766 : 0 ≤ σ760 86 39 ∧ σ760 86 39 ≤ 6 := hI761.1 86 39
              rw [hF742.1 86 37 (by decide), (show σ739 86 36 = ((σ625 86 36) + 1) from (congrFun (congrFun e740 86) 36).trans rfl), (show σ739 86 39 = (σ625 86 39) from (congrFun (congrFun e740 86) 39).trans rfl)] at hp752
              rw [hF742.1 86 35 (by decide), hF742.1 86 37 (by decide), (show σ739 86 36 = ((σ625 86 36) + 1) from (congrFun (congrFun e740 86) 36).trans rfl)] at hx753
              show qr_W (qe L xs vb) (d + 1) qx_e217 _ (59, _, [.int (qz v751)], qw σ760 α κ ρ, 0, 0)
              refine qr_istore_n _ 60 rfl (by decide) rfl rfl ?_
              refine qr_iload_n 61 rfl (qm_gk (qm_ge _ _ _) (by decide) (Or.inr rfl)) rfl ?_
              refine qr_if_eq 70 64 rfl rfl rfl (by decide) (fun h767 => ?_) (fun h => False.elim (by omega))
              refine qr_iload_n 71 rfl (qm_gk (qm_gk g623 (by decide) (Or.inr rfl)) (by decide) (Or.inl (by decide))) rfl ?_
              refine qr_iload_n 72 rfl (qm_ge _ _ _) rfl ?_
              refine qr_isub 73 rfl rfl ?_
              refine qy_canE (fun v768 hv768 hev768 => ?_)
              refine qr_istore_n _ 74 rfl (by decide) rfl rfl ?_
              refine qr_goto 5 rfl rfl ?_
              exact ih635 _ v768 σ760 (by omega) (qm_gk (qm_gk (qm_gk g622 (by decide) (Or.inl (by decide))) (by decide) (Or.inl (by decide))) (by decide) (Or.inr rfl)) (qm_ge _ _ _) hv768 hI761 hF763 ((hG762.1 86 35 (by decide)).trans ((congrFun (congrFun e740 86) 35).trans ((hk629).trans rfl))) ((hG762.1 86 37 (by decide)).trans ((congrFun (congrFun e740 86) 37).trans ((hk630).trans rfl))) (by have hlo := qtx_lo_c (qtx_c (qtT (α 106) (α 107) (σ 86 35)) (σ 86 37) (σ625 86 36)); have hi : qLI (qtT (α 106) (α 107) (σ 86 35)) (σ 86 37) (qtx_lv (qtT (α 106) (α 107) (σ 86 35)) (σ 86 37) (fun b => qtx_on (qtT (α 106) (α 107) (σ 86 35)) (σ 86 37) (α 109) ro b) 1) 3 ((qtx_lv (qtT (α 106) (α 107) (σ 86 35)) (σ 86 37) (fun b => qtx_on (qtT (α 106) (α 107) (σ 86 35)) (σ 86 37) (α 109) ro b) (1 + 1)) (σ 86 36)) u624 (σ625 86 36) (-1) := (by have h9 := hx632; rwa [show σ625 86 38 = -1 by omega] at h9); exact qLI_s hi (by omega) (by decide) (by omega) hx753 (by omega) (fun _ => qap_sub (by omega) hev768 (by omega))) (by omega)
            · skip
              refine qr_iconst 40 rfl rfl ?_
              refine qr_goto 44 rfl rfl ?_
              refine qr_istore_n _ 45 rfl (by decide) rfl rfl ?_
              refine qr_aload_n 46 rfl (qm_gk g622 (by decide) (Or.inl (by decide))) rfl ?_
              refine qr_dup 47 rfl rfl rfl ?_
              refine qr_get 50 rfl rfl rfl (by decide) rfl ?_
              refine qr_iconst 51 rfl rfl ?_
              refine qr_iadd 52 rfl rfl ?_
              refine qr_put 55 rfl (by decide) rfl (Nat.le_of_ble_eq_true rfl) (Nat.le_of_ble_eq_true rfl) (Or.inl rfl) (qr_fitI rfl _) rfl ?_
              refine qy_wS (qw_s σ625 86 36 ((σ625 86 36) + 1)) rfl (fun σ769 e770 => ?_)
              have hI771 : qI σ769 α κ ρ := by rw [e770]; exact qI_s hI627 86 36 rfl (show 0 ≤ ((σ625 86 36) + 1) ∧ ((σ625 86 36) + 1) ≤ 120 by omega)
              have hF772 : qFr [(86, 36), (86, 38), (86, 39)] [] σ α σ769 α := by rw [e770]; exact qFr_s hF628 86 36 _ (by decide)
              refine qr_aload_n 56 rfl (qm_gk g622 (by decide) (Or.inl (by decide))) rfl ?_
              have hs773 : 0 ≤ σ769 86 36 ∧ σ769 86 36 ≤ 120 := hI771.1 86 36
              have hs774 : σ769 86 36 = ((σ625 86 36) + 1) := (congrFun (congrFun e770 86) 36).trans rfl
              have hs775 : 0 ≤ σ769 86 37 ∧ σ769 86 37 ≤ 120 := hI771.1 86 37
              have hs776 : σ769 86 37 = (σ 86 37) := (congrFun (congrFun e770 86) 37).trans ((hk630).trans rfl)
              have hs777 : (-1) ≤ σ769 86 38 ∧ σ769 86 38 ≤ 120 := hI771.1 86 38
              have hs778 : σ769 86 38 = (σ625 86 38) := (congrFun (congrFun e770 86) 38).trans rfl
              have hs779 : 0 ≤ σ769 86 39 ∧ σ769 86 39 ≤ 6 := hI771.1 86 39
              have hs780 : σ769 86 39 = (σ625 86 39) := (congrFun (congrFun e770 86) 39).trans rfl
              refine qr_callN 59 rfl rfl rfl (ihC hI771 (by omega) (by omega) (by omega)) ?_
              have hs784 : 0 ≤ σ769 86 36 ∧ σ769 86 36 ≤ 120 := hI771.1 86 36
              have hs785 : σ769 86 36 = ((σ625 86 36) + 1) := (congrFun (congrFun e770 86) 36).trans rfl
              have hs786 : 0 ≤ σ769 86 37 ∧ σ769 86 37 ≤ 120 := hI771.1 86 37
              have hs787 : σ769 86 37 = (σ 86 37) := (congrFun (congrFun e770 86) 37).trans ((hk630).trans rfl)
              have hs788 : 0 ≤ σ769 86 39 ∧ σ769 86 39 ≤ 6 := hI771.1 86 39
              have hs789 : σ769 86 39 = (σ625 86 39) := (congrFun (congrFun e770 86) 39).trans rfl
              rintro _ _ ⟨σ790, rfl, hI791, hG792, v781, rfl, hv781, hp782, hx783⟩
              have hF793 : qFr [(86, 36), (86, 38), (86, 39)] [] σ α σ790 α := qFr_t hF772 hG792 (by decide) (by decide)
              have hs794 : 0 ≤ σ790 86 36 ∧ σ790 86 36 ≤ 120 := hI791.1 86 36
              have hs795 : (-1) ≤ σ790 86 38 ∧ σ790 86 38 ≤ 120 := hI791.1 86 38
              have hs796 : 0 ≤ σ790 86 39 ∧ σ790 86 39 ≤ 6 := hI791.1 86 39
              rw [hF772.1 86 37 (by decide), (show σ769 86 36 = ((σ625 86 36) + 1) from (congrFun (congrFun e770 86) 36).trans rfl), (show σ769 86 39 = (σ625 86 39) from (congrFun (congrFun e770 86) 39).trans rfl)] at hp782
              rw [hF772.1 86 35 (by decide), hF772.1 86 37 (by decide), (show σ769 86 36 = ((σ625 86 36) + 1) from (congrFun (congrFun e770 86) 36).trans rfl)] at hx783
              show qr_W (qe L xs vb) (d + 1) qx_e217 _ (59, _, [.int (qz v781)], qw σ790 α κ ρ, 0, 0)
              refine qr_istore_n _ 60 rfl (by decide) rfl rfl ?_
              refine qr_iload_n 61 rfl (qm_gk (qm_ge _ _ _) (by decide) (Or.inr rfl)) rfl ?_
              refine qr_if_eq 70 64 rfl rfl rfl (by decide) (fun h => False.elim (by omega)) (fun h797 => ?_)
              refine qr_iload_n 65 rfl (qm_gk (qm_gk g623 (by decide) (Or.inr rfl)) (by decide) (Or.inl (by decide))) rfl ?_
              refine qr_iload_n 66 rfl (qm_ge _ _ _) rfl ?_
              refine qr_iadd 67 rfl rfl ?_
              refine qy_canE (fun v798 hv798 hev798 => ?_)
              refine qr_goto 73 rfl rfl ?_
              refine qr_istore_n _ 74 rfl (by decide) rfl rfl ?_
              refine qr_goto 5 rfl rfl ?_
              exact ih635 _ v798 σ790 (by omega) (qm_gk (qm_gk (qm_gk g622 (by decide) (Or.inl (by decide))) (by decide) (Or.inl (by decide))) (by decide) (Or.inr rfl)) (qm_ge _ _ _) hv798 hI791 hF793 ((hG792.1 86 35 (by decide)).trans ((congrFun (congrFun e770 86) 35).trans ((hk629).trans rfl))) ((hG792.1 86 37 (by decide)).trans ((congrFun (congrFun e770 86) 37).trans ((hk630).trans rfl))) (by have hlo := qtx_lo_c (qtx_c (qtT (α 106) (α 107) (σ 86 35)) (σ 86 37) (σ625 86 36)); have hi : qLI (qtT (α 106) (α 107) (σ 86 35)) (σ 86 37) (qtx_lv (qtT (α 106) (α 107) (σ 86 35)) (σ 86 37) (fun b => qtx_on (qtT (α 106) (α 107) (σ 86 35)) (σ 86 37) (α 109) ro b) 1) 3 ((qtx_lv (qtT (α 106) (α 107) (σ 86 35)) (σ 86 37) (fun b => qtx_on (qtT (α 106) (α 107) (σ 86 35)) (σ 86 37) (α 109) ro b) (1 + 1)) (σ 86 36)) u624 (σ625 86 36) (-1) := (by have h9 := hx632; rwa [show σ625 86 38 = -1 by omega] at h9); exact qLI_s hi (by omega) (by decide) (by omega) hx783 (by omega) (fun _ => qap_add (by omega) hev798 (by omega))) (by omega)
  exact hL634 ((((120 - σ11 86 36).toNat : Int) + 1 : Int)).toNat _ v5 σ11 (by omega) rfl rfl hv5 hI12 hF14 ((hG13.1 86 35 (by decide)).trans rfl) ((hG13.1 86 37 (by decide)).trans rfl) (by exact qLI_0 hx7 ⟨by omega, by omega⟩) (by omega)

set_option maxHeartbeats 4000000 in
set_option maxRecDepth 20000 in
/-- OneRoofModel.compared -/
theorem sf_216_86x {L : Nat} {xs : Nat → Int} {vb : Bool} {d : Nat} {σ α : Nat → Nat → Int} {κ : Nat → Option Nat} {ρ : Nat} {ro : Nat} (ihC : ∀ {σ α : Nat → Nat → Int}, qI σ α κ ρ → σ 86 36 ≤ σ 86 37 → σ 86 38 = -1 → σ 86 39 + (ro : Int) = 6 → qm_T (qe L xs vb) (d + 1) 217 [.ref 86] (qw σ α κ ρ) (fun r w' => ∃ σ', w' = qw σ' α κ ρ ∧ qI σ' α κ ρ ∧ qFr [(86, 36), (86, 38), (86, 39)] [] σ α σ' α ∧ ∃ v : Int, r = some (.int (qz v)) ∧ ((-2147483648) ≤ v ∧ v ≤ 2147483647) ∧ (σ 86 36 ≤ σ' 86 36 ∧ σ' 86 36 ≤ σ 86 37 ∧ σ 86 39 ≤ σ' 86 39 ∧ ((σ' 86 38 = -1 ∧ σ' 86 39 = σ 86 39 ∧ σ 86 36 < σ' 86 36) ∨ σ' 86 38 = σ' 86 36)) ∧ qRes ((qtx_lv (qtT (α 106) (α 107) (σ 86 35)) (σ 86 37) (fun b => qtx_on (qtT (α 106) (α 107) (σ 86 35)) (σ 86 37) (α 109) ro b) 2) (σ 86 36)) v (σ' 86 36) (σ' 86 38))) (hI : qI σ α κ ρ) (p0 : σ 86 36 ≤ σ 86 37) (p1 : σ 86 38 = -1) (p2 : σ 86 39 + (ro : Int) = 6) : qm_T (qe L xs vb) (d + 2) 216 [.ref 86] (qw σ α κ ρ) (fun r w' => ∃ σ', w' = qw σ' α κ ρ ∧ qI σ' α κ ρ ∧ qFr [(86, 36), (86, 38), (86, 39)] [] σ α σ' α ∧ ∃ v : Int, r = some (.int (qz v)) ∧ ((-2147483648) ≤ v ∧ v ≤ 2147483647) ∧ (σ 86 36 ≤ σ' 86 36 ∧ σ' 86 36 ≤ σ 86 37 ∧ σ 86 39 ≤ σ' 86 39 ∧ ((σ' 86 38 = -1 ∧ σ' 86 39 = σ 86 39 ∧ σ 86 36 < σ' 86 36) ∨ σ' 86 38 = σ' 86 36)) ∧ qRes ((qtx_lv (qtT (α 106) (α 107) (σ 86 35)) (σ 86 37) (fun b => qtx_on (qtT (α 106) (α 107) (σ 86 35)) (σ 86 37) (α 109) ro b) (2 + 1)) (σ 86 36)) v (σ' 86 36) (σ' 86 38)) := by
  refine qr_start (d := d + 1) qv_e216 (Nat.le_of_ble_eq_true rfl) ?_
  show qr_W (qe L xs vb) (d + 1) qx_e216 _ (0, [(0, .ref 86)], [], _, 0, 0)
  have hF0 := qFr_rf [(86, 36), (86, 38), (86, 39)] [] σ α
  have hz86_36 : 0 ≤ σ 86 36 ∧ σ 86 36 ≤ 120 := hI.1 86 36
  have hz86_37 : 0 ≤ σ 86 37 ∧ σ 86 37 ≤ 120 := hI.1 86 37
  have hz86_39 : 0 ≤ σ 86 39 ∧ σ 86 39 ≤ 6 := hI.1 86 39
  have hz86_38 : (-1) ≤ σ 86 38 ∧ σ 86 38 ≤ 120 := hI.1 86 38
  have hz86_35 : (-1) ≤ σ 86 35 ∧ σ 86 35 ≤ 120 := hI.1 86 35
  refine qr_aload_n 1 rfl rfl rfl ?_
  have hs1 : 0 ≤ σ 86 36 ∧ σ 86 36 ≤ 120 := hI.1 86 36
  have hs2 : 0 ≤ σ 86 37 ∧ σ 86 37 ≤ 120 := hI.1 86 37
  have hs3 : (-1) ≤ σ 86 38 ∧ σ 86 38 ≤ 120 := hI.1 86 38
  have hs4 : 0 ≤ σ 86 39 ∧ σ 86 39 ≤ 6 := hI.1 86 39
  refine qr_callN 4 rfl rfl rfl (ihC hI (by omega) (by omega) (by omega)) ?_
  have hs8 : 0 ≤ σ 86 36 ∧ σ 86 36 ≤ 120 := hI.1 86 36
  have hs9 : 0 ≤ σ 86 37 ∧ σ 86 37 ≤ 120 := hI.1 86 37
  have hs10 : 0 ≤ σ 86 39 ∧ σ 86 39 ≤ 6 := hI.1 86 39
  rintro _ _ ⟨σ11, rfl, hI12, hG13, v5, rfl, hv5, hp6, hx7⟩
  have hF14 : qFr [(86, 36), (86, 38), (86, 39)] [] σ α σ11 α := qFr_t hF0 hG13 (by decide) (by decide)
  have hs15 : 0 ≤ σ11 86 36 ∧ σ11 86 36 ≤ 120 := hI12.1 86 36
  have hs16 : (-1) ≤ σ11 86 38 ∧ σ11 86 38 ≤ 120 := hI12.1 86 38
  have hs17 : 0 ≤ σ11 86 39 ∧ σ11 86 39 ≤ 6 := hI12.1 86 39
  show qr_W (qe L xs vb) (d + 1) qx_e216 _ (4, _, [.int (qz v5)], qw σ11 α κ ρ, 0, 0)
  refine qr_istore_n _ 5 rfl (by decide) rfl rfl ?_
  refine qr_aload_n 6 rfl rfl rfl ?_
  refine qr_callN 9 rfl rfl rfl (sf_220_86x (d := d + 0) hI12 ) ?_
  have hs20 : (-1) ≤ σ11 86 35 ∧ σ11 86 35 ≤ 120 := hI12.1 86 35
  have hs21 : σ11 86 35 = (σ 86 35) := (hG13.1 86 35 (by decide)).trans rfl
  have hs22 : 0 ≤ σ11 86 36 ∧ σ11 86 36 ≤ 120 := hI12.1 86 36
  have hs23 : 0 ≤ σ11 86 37 ∧ σ11 86 37 ≤ 120 := hI12.1 86 37
  have hs24 : σ11 86 37 = (σ 86 37) := (hG13.1 86 37 (by decide)).trans rfl
  rintro _ _ ⟨rfl, v18, rfl, hv18, hp19⟩
  rw [hF14.1 86 35 (by decide), hF14.1 86 37 (by decide)] at hp19
  show qr_W (qe L xs vb) (d + 1) qx_e216 _ (9, _, [.int (qz v18)], qw σ11 α κ ρ, 0, 0)
  refine qr_istore_n _ 10 rfl (by decide) rfl rfl ?_
  refine qr_aload_n 11 rfl rfl rfl ?_
  refine qr_get 14 rfl rfl rfl (by decide) rfl ?_
  refine qr_if_ge 35 17 rfl rfl rfl (by omega) (fun h25 => ?_) (fun h25 => ?_)
  · skip
    refine qr_iload_n 36 rfl rfl rfl ?_
    refine qr_retI rfl rfl (by decide) (by decide) ?_
    have hw26 : σ11 86 36 = (σ11 86 36) := rfl
    have hw27 : σ11 86 38 = (σ11 86 38) := rfl
    have hw28 : σ11 86 39 = (σ11 86 39) := rfl
    exact ⟨_, rfl, hI12, hF14, v5, rfl, hv5, by omega, (by exact qC1_e (l := 2) hx7 (by omega) (fun _ => by have hlo := qtx_lo_c (qtx_c (qtT (α 106) (α 107) (σ 86 35)) (σ 86 37) (σ11 86 36)); omega))⟩
  · skip
    refine qr_iload_n 18 rfl rfl rfl ?_
    refine qr_bipush 20 rfl (by decide) rfl ?_
    refine qr_icmp_eq 37 23 rfl rfl rfl hv18 (by decide) (fun h29 => ?_) (fun h29 => ?_)
    · skip
      refine qr_aload_n 38 rfl rfl rfl ?_
      refine qr_dup 39 rfl rfl rfl ?_
      refine qr_get 42 rfl rfl rfl (by decide) rfl ?_
      refine qr_iconst 43 rfl rfl ?_
      refine qr_iadd 44 rfl rfl ?_
      refine qr_put 47 rfl (by decide) rfl (Nat.le_of_ble_eq_true rfl) (Nat.le_of_ble_eq_true rfl) (Or.inl rfl) (qr_fitI rfl _) rfl ?_
      refine qy_wS (qw_s σ11 86 36 ((σ11 86 36) + 1)) rfl (fun σ30 e31 => ?_)
      have hI32 : qI σ30 α κ ρ := by rw [e31]; exact qI_s hI12 86 36 rfl (show 0 ≤ ((σ11 86 36) + 1) ∧ ((σ11 86 36) + 1) ≤ 120 by omega)
      have hF33 : qFr [(86, 36), (86, 38), (86, 39)] [] σ α σ30 α := by rw [e31]; exact qFr_s hF14 86 36 _ (by decide)
      refine qr_aload_n 48 rfl rfl rfl ?_
      have hs34 : 0 ≤ σ30 86 36 ∧ σ30 86 36 ≤ 120 := hI32.1 86 36
      have hs35 : σ30 86 36 = ((σ11 86 36) + 1) := (congrFun (congrFun e31 86) 36).trans rfl
      have hs36 : 0 ≤ σ30 86 37 ∧ σ30 86 37 ≤ 120 := hI32.1 86 37
      have hs37 : σ30 86 37 = (σ 86 37) := (congrFun (congrFun e31 86) 37).trans ((hG13.1 86 37 (by decide)).trans rfl)
      have hs38 : (-1) ≤ σ30 86 38 ∧ σ30 86 38 ≤ 120 := hI32.1 86 38
      have hs39 : σ30 86 38 = (σ11 86 38) := (congrFun (congrFun e31 86) 38).trans rfl
      have hs40 : 0 ≤ σ30 86 39 ∧ σ30 86 39 ≤ 6 := hI32.1 86 39
      have hs41 : σ30 86 39 = (σ11 86 39) := (congrFun (congrFun e31 86) 39).trans rfl
      refine qr_callN 51 rfl rfl rfl (ihC hI32 (by omega) (by omega) (by omega)) ?_
      have hs45 : 0 ≤ σ30 86 36 ∧ σ30 86 36 ≤ 120 := hI32.1 86 36
      have hs46 : σ30 86 36 = ((σ11 86 36) + 1) := (congrFun (congrFun e31 86) 36).trans rfl
      have hs47 : 0 ≤ σ30 86 37 ∧ σ30 86 37 ≤ 120 := hI32.1 86 37
      have hs48 : σ30 86 37 = (σ 86 37) := (congrFun (congrFun e31 86) 37).trans ((hG13.1 86 37 (by decide)).trans rfl)
      have hs49 : 0 ≤ σ30 86 39 ∧ σ30 86 39 ≤ 6 := hI32.1 86 39
      have hs50 : σ30 86 39 = (σ11 86 39) := (congrFun (congrFun e31 86) 39).trans rfl
      rintro _ _ ⟨σ51, rfl, hI52, hG53, v42, rfl, hv42, hp43, hx44⟩
      have hF54 : qFr [(86, 36), (86, 38), (86, 39)] [] σ α σ51 α := qFr_t hF33 hG53 (by decide) (by decide)
      have hs55 : 0 ≤ σ51 86 36 ∧ σ51 86 36 ≤ 120 := hI52.1 86 36
      have hs56 : (-1) ≤ σ51 86 38 ∧ σ51 86 38 ≤ 120 := hI52.1 86 38
      have hs57 : 0 ≤ σ51 86 39 ∧ σ51 86 39 ≤ 6 := hI52.1 86 39
      rw [hF33.1 86 37 (by decide), (show σ30 86 36 = ((σ11 86 36) + 1) from (congrFun (congrFun e31 86) 36).trans rfl), (show σ30 86 39 = (σ11 86 39) from (congrFun (congrFun e31 86) 39).trans rfl)] at hp43
      rw [hF33.1 86 35 (by decide), hF33.1 86 37 (by decide), (show σ30 86 36 = ((σ11 86 36) + 1) from (congrFun (congrFun e31 86) 36).trans rfl)] at hx44
      show qr_W (qe L xs vb) (d + 1) qx_e216 _ (51, _, [.int (qz v42)], qw σ51 α κ ρ, 0, 0)
      refine qr_istore_n _ 52 rfl (by decide) rfl rfl ?_
      refine qr_iload_n 53 rfl rfl rfl ?_
      refine qr_bipush 55 rfl (by decide) rfl ?_
      refine qr_icmp_ne 66 58 rfl rfl rfl hv18 (by decide) (fun h => False.elim (by omega)) (fun h58 => ?_)
      refine qr_iload_n 59 rfl rfl rfl ?_
      refine qr_iload_n 60 rfl rfl rfl ?_
      refine qr_icmp_ge 89 63 rfl rfl rfl hv5 hv42 (fun h59 => ?_) (fun h59 => ?_)
      · skip
        refine qr_iconst 90 rfl rfl ?_
        refine qr_retI rfl rfl (by decide) (by decide) ?_
        have hw60 : σ51 86 36 = (σ51 86 36) := rfl
        have hw61 : σ51 86 38 = (σ51 86 38) := rfl
        have hw62 : σ51 86 39 = (σ51 86 39) := rfl
        exact ⟨_, rfl, hI52, hF54, 0, rfl, (by decide), by omega, (by have hlo := qtx_lo_c (qtx_c (qtT (α 106) (α 107) (σ 86 35)) (σ 86 37) (σ11 86 36)); have hf : σ11 86 38 = -1 := (by omega); have hi := hx7; rw [hf] at hi; exact qC1_s (l := 2) hi (by omega) (by omega) hx44 (by omega) (fun _ => qap_cmp (by omega)))⟩
      · skip
        refine qr_goto 85 rfl rfl ?_
        refine qr_iconst 86 rfl rfl ?_
        refine qr_goto 90 rfl rfl ?_
        refine qr_retI rfl rfl (by decide) (by decide) ?_
        have hw63 : σ51 86 36 = (σ51 86 36) := rfl
        have hw64 : σ51 86 38 = (σ51 86 38) := rfl
        have hw65 : σ51 86 39 = (σ51 86 39) := rfl
        exact ⟨_, rfl, hI52, hF54, 1, rfl, (by decide), by omega, (by have hlo := qtx_lo_c (qtx_c (qtT (α 106) (α 107) (σ 86 35)) (σ 86 37) (σ11 86 36)); have hf : σ11 86 38 = -1 := (by omega); have hi := hx7; rw [hf] at hi; exact qC1_s (l := 2) hi (by omega) (by omega) hx44 (by omega) (fun _ => qap_cmp (by omega)))⟩
    · skip
      refine qr_iload_n 24 rfl rfl rfl ?_
      refine qr_bipush 26 rfl (by decide) rfl ?_
      refine qr_icmp_eq 37 29 rfl rfl rfl hv18 (by decide) (fun h66 => ?_) (fun h66 => ?_)
      · skip
        refine qr_aload_n 38 rfl rfl rfl ?_
        refine qr_dup 39 rfl rfl rfl ?_
        refine qr_get 42 rfl rfl rfl (by decide) rfl ?_
        refine qr_iconst 43 rfl rfl ?_
        refine qr_iadd 44 rfl rfl ?_
        refine qr_put 47 rfl (by decide) rfl (Nat.le_of_ble_eq_true rfl) (Nat.le_of_ble_eq_true rfl) (Or.inl rfl) (qr_fitI rfl _) rfl ?_
        refine qy_wS (qw_s σ11 86 36 ((σ11 86 36) + 1)) rfl (fun σ67 e68 => ?_)
        have hI69 : qI σ67 α κ ρ := by rw [e68]; exact qI_s hI12 86 36 rfl (show 0 ≤ ((σ11 86 36) + 1) ∧ ((σ11 86 36) + 1) ≤ 120 by omega)
        have hF70 : qFr [(86, 36), (86, 38), (86, 39)] [] σ α σ67 α := by rw [e68]; exact qFr_s hF14 86 36 _ (by decide)
        refine qr_aload_n 48 rfl rfl rfl ?_
        have hs71 : 0 ≤ σ67 86 36 ∧ σ67 86 36 ≤ 120 := hI69.1 86 36
        have hs72 : σ67 86 36 = ((σ11 86 36) + 1) := (congrFun (congrFun e68 86) 36).trans rfl
        have hs73 : 0 ≤ σ67 86 37 ∧ σ67 86 37 ≤ 120 := hI69.1 86 37
        have hs74 : σ67 86 37 = (σ 86 37) := (congrFun (congrFun e68 86) 37).trans ((hG13.1 86 37 (by decide)).trans rfl)
        have hs75 : (-1) ≤ σ67 86 38 ∧ σ67 86 38 ≤ 120 := hI69.1 86 38
        have hs76 : σ67 86 38 = (σ11 86 38) := (congrFun (congrFun e68 86) 38).trans rfl
        have hs77 : 0 ≤ σ67 86 39 ∧ σ67 86 39 ≤ 6 := hI69.1 86 39
        have hs78 : σ67 86 39 = (σ11 86 39) := (congrFun (congrFun e68 86) 39).trans rfl
        refine qr_callN 51 rfl rfl rfl (ihC hI69 (by omega) (by omega) (by omega)) ?_
        have hs82 : 0 ≤ σ67 86 36 ∧ σ67 86 36 ≤ 120 := hI69.1 86 36
        have hs83 : σ67 86 36 = ((σ11 86 36) + 1) := (congrFun (congrFun e68 86) 36).trans rfl
        have hs84 : 0 ≤ σ67 86 37 ∧ σ67 86 37 ≤ 120 := hI69.1 86 37
        have hs85 : σ67 86 37 = (σ 86 37) := (congrFun (congrFun e68 86) 37).trans ((hG13.1 86 37 (by decide)).trans rfl)
        have hs86 : 0 ≤ σ67 86 39 ∧ σ67 86 39 ≤ 6 := hI69.1 86 39
        have hs87 : σ67 86 39 = (σ11 86 39) := (congrFun (congrFun e68 86) 39).trans rfl
        rintro _ _ ⟨σ88, rfl, hI89, hG90, v79, rfl, hv79, hp80, hx81⟩
        have hF91 : qFr [(86, 36), (86, 38), (86, 39)] [] σ α σ88 α := qFr_t hF70 hG90 (by decide) (by decide)
        have hs92 : 0 ≤ σ88 86 36 ∧ σ88 86 36 ≤ 120 := hI89.1 86 36
        have hs93 : (-1) ≤ σ88 86 38 ∧ σ88 86 38 ≤ 120 := hI89.1 86 38
        have hs94 : 0 ≤ σ88 86 39 ∧ σ88 86 39 ≤ 6 := hI89.1 86 39
        rw [hF70.1 86 37 (by decide), (show σ67 86 36 = ((σ11 86 36) + 1) from (congrFun (congrFun e68 86) 36).trans rfl), (show σ67 86 39 = (σ11 86 39) from (congrFun (congrFun e68 86) 39).trans rfl)] at hp80
        rw [hF70.1 86 35 (by decide), hF70.1 86 37 (by decide), (show σ67 86 36 = ((σ11 86 36) + 1) from (congrFun (congrFun e68 86) 36).trans rfl)] at hx81
        show qr_W (qe L xs vb) (d + 1) qx_e216 _ (51, _, [.int (qz v79)], qw σ88 α κ ρ, 0, 0)
        refine qr_istore_n _ 52 rfl (by decide) rfl rfl ?_
        refine qr_iload_n 53 rfl rfl rfl ?_
        refine qr_bipush 55 rfl (by decide) rfl ?_
        refine qr_icmp_ne 66 58 rfl rfl rfl hv18 (by decide) (fun h95 => ?_) (fun h => False.elim (by omega))
        refine qr_iload_n 67 rfl rfl rfl ?_
        refine qr_bipush 69 rfl (by decide) rfl ?_
        refine qr_icmp_ne 80 72 rfl rfl rfl hv18 (by decide) (fun h => False.elim (by omega)) (fun h96 => ?_)
        refine qr_iload_n 73 rfl rfl rfl ?_
        refine qr_iload_n 74 rfl rfl rfl ?_
        refine qr_icmp_ne 89 77 rfl rfl rfl hv5 hv79 (fun h97 => ?_) (fun h97 => ?_)
        · skip
          refine qr_iconst 90 rfl rfl ?_
          refine qr_retI rfl rfl (by decide) (by decide) ?_
          have hw98 : σ88 86 36 = (σ88 86 36) := rfl
          have hw99 : σ88 86 38 = (σ88 86 38) := rfl
          have hw100 : σ88 86 39 = (σ88 86 39) := rfl
          exact ⟨_, rfl, hI89, hF91, 0, rfl, (by decide), by omega, (by have hlo := qtx_lo_c (qtx_c (qtT (α 106) (α 107) (σ 86 35)) (σ 86 37) (σ11 86 36)); have hf : σ11 86 38 = -1 := (by omega); have hi := hx7; rw [hf] at hi; exact qC1_s (l := 2) hi (by omega) (by omega) hx81 (by omega) (fun _ => qap_cmp (by omega)))⟩
        · skip
          refine qr_goto 85 rfl rfl ?_
          refine qr_iconst 86 rfl rfl ?_
          refine qr_goto 90 rfl rfl ?_
          refine qr_retI rfl rfl (by decide) (by decide) ?_
          have hw101 : σ88 86 36 = (σ88 86 36) := rfl
          have hw102 : σ88 86 38 = (σ88 86 38) := rfl
          have hw103 : σ88 86 39 = (σ88 86 39) := rfl
          exact ⟨_, rfl, hI89, hF91, 1, rfl, (by decide), by omega, (by have hlo := qtx_lo_c (qtx_c (qtT (α 106) (α 107) (σ 86 35)) (σ 86 37) (σ11 86 36)); have hf : σ11 86 38 = -1 := (by omega); have hi := hx7; rw [hf] at hi; exact qC1_s (l := 2) hi (by omega) (by omega) hx81 (by omega) (fun _ => qap_cmp (by omega)))⟩
      · skip
        refine qr_iload_n 30 rfl rfl rfl ?_
        refine qr_bipush 32 rfl (by decide) rfl ?_
        refine qr_icmp_eq 37 35 rfl rfl rfl hv18 (by decide) (fun h104 => ?_) (fun h104 => ?_)
        · skip
          refine qr_aload_n 38 rfl rfl rfl ?_
          refine qr_dup 39 rfl rfl rfl ?_
          refine qr_get 42 rfl rfl rfl (by decide) rfl ?_
          refine qr_iconst 43 rfl rfl ?_
          refine qr_iadd 44 rfl rfl ?_
          refine qr_put 47 rfl (by decide) rfl (Nat.le_of_ble_eq_true rfl) (Nat.le_of_ble_eq_true rfl) (Or.inl rfl) (qr_fitI rfl _) rfl ?_
          refine qy_wS (qw_s σ11 86 36 ((σ11 86 36) + 1)) rfl (fun σ105 e106 => ?_)
          have hI107 : qI σ105 α κ ρ := by rw [e106]; exact qI_s hI12 86 36 rfl (show 0 ≤ ((σ11 86 36) + 1) ∧ ((σ11 86 36) + 1) ≤ 120 by omega)
          have hF108 : qFr [(86, 36), (86, 38), (86, 39)] [] σ α σ105 α := by rw [e106]; exact qFr_s hF14 86 36 _ (by decide)
          refine qr_aload_n 48 rfl rfl rfl ?_
          have hs109 : 0 ≤ σ105 86 36 ∧ σ105 86 36 ≤ 120 := hI107.1 86 36
          have hs110 : σ105 86 36 = ((σ11 86 36) + 1) := (congrFun (congrFun e106 86) 36).trans rfl
          have hs111 : 0 ≤ σ105 86 37 ∧ σ105 86 37 ≤ 120 := hI107.1 86 37
          have hs112 : σ105 86 37 = (σ 86 37) := (congrFun (congrFun e106 86) 37).trans ((hG13.1 86 37 (by decide)).trans rfl)
          have hs113 : (-1) ≤ σ105 86 38 ∧ σ105 86 38 ≤ 120 := hI107.1 86 38
          have hs114 : σ105 86 38 = (σ11 86 38) := (congrFun (congrFun e106 86) 38).trans rfl
          have hs115 : 0 ≤ σ105 86 39 ∧ σ105 86 39 ≤ 6 := hI107.1 86 39
          have hs116 : σ105 86 39 = (σ11 86 39) := (congrFun (congrFun e106 86) 39).trans rfl
          refine qr_callN 51 rfl rfl rfl (ihC hI107 (by omega) (by omega) (by omega)) ?_
          have hs120 : 0 ≤ σ105 86 36 ∧ σ105 86 36 ≤ 120 := hI107.1 86 36
          have hs121 : σ105 86 36 = ((σ11 86 36) + 1) := (congrFun (congrFun e106 86) 36).trans rfl
          have hs122 : 0 ≤ σ105 86 37 ∧ σ105 86 37 ≤ 120 := hI107.1 86 37
          have hs123 : σ105 86 37 = (σ 86 37) := (congrFun (congrFun e106 86) 37).trans ((hG13.1 86 37 (by decide)).trans rfl)
          have hs124 : 0 ≤ σ105 86 39 ∧ σ105 86 39 ≤ 6 := hI107.1 86 39
          have hs125 : σ105 86 39 = (σ11 86 39) := (congrFun (congrFun e106 86) 39).trans rfl
          rintro _ _ ⟨σ126, rfl, hI127, hG128, v117, rfl, hv117, hp118, hx119⟩
          have hF129 : qFr [(86, 36), (86, 38), (86, 39)] [] σ α σ126 α := qFr_t hF108 hG128 (by decide) (by decide)
          have hs130 : 0 ≤ σ126 86 36 ∧ σ126 86 36 ≤ 120 := hI127.1 86 36
          have hs131 : (-1) ≤ σ126 86 38 ∧ σ126 86 38 ≤ 120 := hI127.1 86 38
          have hs132 : 0 ≤ σ126 86 39 ∧ σ126 86 39 ≤ 6 := hI127.1 86 39
          rw [hF108.1 86 37 (by decide), (show σ105 86 36 = ((σ11 86 36) + 1) from (congrFun (congrFun e106 86) 36).trans rfl), (show σ105 86 39 = (σ11 86 39) from (congrFun (congrFun e106 86) 39).trans rfl)] at hp118
          rw [hF108.1 86 35 (by decide), hF108.1 86 37 (by decide), (show σ105 86 36 = ((σ11 86 36) + 1) from (congrFun (congrFun e106 86) 36).trans rfl)] at hx119
          show qr_W (qe L xs vb) (d + 1) qx_e216 _ (51, _, [.int (qz v117)], qw σ126 α κ ρ, 0, 0)
          refine qr_istore_n _ 52 rfl (by decide) rfl rfl ?_
          refine qr_iload_n 53 rfl rfl rfl ?_
          refine qr_bipush 55 rfl (by decide) rfl ?_
          refine qr_icmp_ne 66 58 rfl rfl rfl hv18 (by decide) (fun h133 => ?_) (fun h => False.elim (by omega))
          refine qr_iload_n 67 rfl rfl rfl ?_
          refine qr_bipush 69 rfl (by decide) rfl ?_
          refine qr_icmp_ne 80 72 rfl rfl rfl hv18 (by decide) (fun h134 => ?_) (fun h => False.elim (by omega))
          refine qr_iload_n 81 rfl rfl rfl ?_
          refine qr_iload_n 82 rfl rfl rfl ?_
          refine qr_icmp_le 89 85 rfl rfl rfl hv5 hv117 (fun h135 => ?_) (fun h135 => ?_)
          · skip
            refine qr_iconst 90 rfl rfl ?_
            refine qr_retI rfl rfl (by decide) (by decide) ?_
            have hw136 : σ126 86 36 = (σ126 86 36) := rfl
            have hw137 : σ126 86 38 = (σ126 86 38) := rfl
            have hw138 : σ126 86 39 = (σ126 86 39) := rfl
            exact ⟨_, rfl, hI127, hF129, 0, rfl, (by decide), by omega, (by have hlo := qtx_lo_c (qtx_c (qtT (α 106) (α 107) (σ 86 35)) (σ 86 37) (σ11 86 36)); have hf : σ11 86 38 = -1 := (by omega); have hi := hx7; rw [hf] at hi; exact qC1_s (l := 2) hi (by omega) (by omega) hx119 (by omega) (fun _ => qap_cmp (by omega)))⟩
          · skip
            refine qr_iconst 86 rfl rfl ?_
            refine qr_goto 90 rfl rfl ?_
            refine qr_retI rfl rfl (by decide) (by decide) ?_
            have hw139 : σ126 86 36 = (σ126 86 36) := rfl
            have hw140 : σ126 86 38 = (σ126 86 38) := rfl
            have hw141 : σ126 86 39 = (σ126 86 39) := rfl
            exact ⟨_, rfl, hI127, hF129, 1, rfl, (by decide), by omega, (by have hlo := qtx_lo_c (qtx_c (qtT (α 106) (α 107) (σ 86 35)) (σ 86 37) (σ11 86 36)); have hf : σ11 86 38 = -1 := (by omega); have hi := hx7; rw [hf] at hi; exact qC1_s (l := 2) hi (by omega) (by omega) hx119 (by omega) (fun _ => qap_cmp (by omega)))⟩
        · skip
          refine qr_iload_n 36 rfl rfl rfl ?_
          refine qr_retI rfl rfl (by decide) (by decide) ?_
          have hw142 : σ11 86 36 = (σ11 86 36) := rfl
          have hw143 : σ11 86 38 = (σ11 86 38) := rfl
          have hw144 : σ11 86 39 = (σ11 86 39) := rfl
          exact ⟨_, rfl, hI12, hF14, v5, rfl, hv5, by omega, (by exact qC1_e (l := 2) hx7 (by omega) (fun _ => by have hlo := qtx_lo_c (qtx_c (qtT (α 106) (α 107) (σ 86 35)) (σ 86 37) (σ11 86 36)); omega))⟩

set_option maxHeartbeats 4000000 in
set_option maxRecDepth 20000 in
/-- OneRoofModel.both -/
theorem sf_215_86x {L : Nat} {xs : Nat → Int} {vb : Bool} {d : Nat} {σ α : Nat → Nat → Int} {κ : Nat → Option Nat} {ρ : Nat} {ro : Nat} (ihC : ∀ {σ α : Nat → Nat → Int}, qI σ α κ ρ → σ 86 36 ≤ σ 86 37 → σ 86 38 = -1 → σ 86 39 + (ro : Int) = 6 → qm_T (qe L xs vb) (d + 2) 216 [.ref 86] (qw σ α κ ρ) (fun r w' => ∃ σ', w' = qw σ' α κ ρ ∧ qI σ' α κ ρ ∧ qFr [(86, 36), (86, 38), (86, 39)] [] σ α σ' α ∧ ∃ v : Int, r = some (.int (qz v)) ∧ ((-2147483648) ≤ v ∧ v ≤ 2147483647) ∧ (σ 86 36 ≤ σ' 86 36 ∧ σ' 86 36 ≤ σ 86 37 ∧ σ 86 39 ≤ σ' 86 39 ∧ ((σ' 86 38 = -1 ∧ σ' 86 39 = σ 86 39 ∧ σ 86 36 < σ' 86 36) ∨ σ' 86 38 = σ' 86 36)) ∧ qRes ((qtx_lv (qtT (α 106) (α 107) (σ 86 35)) (σ 86 37) (fun b => qtx_on (qtT (α 106) (α 107) (σ 86 35)) (σ 86 37) (α 109) ro b) 3) (σ 86 36)) v (σ' 86 36) (σ' 86 38))) (hI : qI σ α κ ρ) (p0 : σ 86 36 ≤ σ 86 37) (p1 : σ 86 38 = -1) (p2 : σ 86 39 + (ro : Int) = 6) : qm_T (qe L xs vb) (d + 3) 215 [.ref 86] (qw σ α κ ρ) (fun r w' => ∃ σ', w' = qw σ' α κ ρ ∧ qI σ' α κ ρ ∧ qFr [(86, 36), (86, 38), (86, 39)] [] σ α σ' α ∧ ∃ v : Int, r = some (.int (qz v)) ∧ ((-2147483648) ≤ v ∧ v ≤ 2147483647) ∧ (σ 86 36 ≤ σ' 86 36 ∧ σ' 86 36 ≤ σ 86 37 ∧ σ 86 39 ≤ σ' 86 39 ∧ ((σ' 86 38 = -1 ∧ σ' 86 39 = σ 86 39 ∧ σ 86 36 < σ' 86 36) ∨ σ' 86 38 = σ' 86 36)) ∧ qRes ((qtx_lv (qtT (α 106) (α 107) (σ 86 35)) (σ 86 37) (fun b => qtx_on (qtT (α 106) (α 107) (σ 86 35)) (σ 86 37) (α 109) ro b) (3 + 1)) (σ 86 36)) v (σ' 86 36) (σ' 86 38)) := by
  refine qr_start (d := d + 2) qv_e215 (Nat.le_of_ble_eq_true rfl) ?_
  show qr_W (qe L xs vb) (d + 2) qx_e215 _ (0, [(0, .ref 86)], [], _, 0, 0)
  have hF0 := qFr_rf [(86, 36), (86, 38), (86, 39)] [] σ α
  have hz86_36 : 0 ≤ σ 86 36 ∧ σ 86 36 ≤ 120 := hI.1 86 36
  have hz86_37 : 0 ≤ σ 86 37 ∧ σ 86 37 ≤ 120 := hI.1 86 37
  have hz86_39 : 0 ≤ σ 86 39 ∧ σ 86 39 ≤ 6 := hI.1 86 39
  have hz86_38 : (-1) ≤ σ 86 38 ∧ σ 86 38 ≤ 120 := hI.1 86 38
  have hz86_35 : (-1) ≤ σ 86 35 ∧ σ 86 35 ≤ 120 := hI.1 86 35
  refine qr_aload_n 1 rfl rfl rfl ?_
  have hs1 : 0 ≤ σ 86 36 ∧ σ 86 36 ≤ 120 := hI.1 86 36
  have hs2 : 0 ≤ σ 86 37 ∧ σ 86 37 ≤ 120 := hI.1 86 37
  have hs3 : (-1) ≤ σ 86 38 ∧ σ 86 38 ≤ 120 := hI.1 86 38
  have hs4 : 0 ≤ σ 86 39 ∧ σ 86 39 ≤ 6 := hI.1 86 39
  refine qr_callN 4 rfl rfl rfl (ihC hI (by omega) (by omega) (by omega)) ?_
  have hs8 : 0 ≤ σ 86 36 ∧ σ 86 36 ≤ 120 := hI.1 86 36
  have hs9 : 0 ≤ σ 86 37 ∧ σ 86 37 ≤ 120 := hI.1 86 37
  have hs10 : 0 ≤ σ 86 39 ∧ σ 86 39 ≤ 6 := hI.1 86 39
  rintro _ _ ⟨σ11, rfl, hI12, hG13, v5, rfl, hv5, hp6, hx7⟩
  have hF14 : qFr [(86, 36), (86, 38), (86, 39)] [] σ α σ11 α := qFr_t hF0 hG13 (by decide) (by decide)
  have hs15 : 0 ≤ σ11 86 36 ∧ σ11 86 36 ≤ 120 := hI12.1 86 36
  have hs16 : (-1) ≤ σ11 86 38 ∧ σ11 86 38 ≤ 120 := hI12.1 86 38
  have hs17 : 0 ≤ σ11 86 39 ∧ σ11 86 39 ≤ 6 := hI12.1 86 39
  show qr_W (qe L xs vb) (d + 2) qx_e215 _ (4, _, [.int (qz v5)], qw σ11 α κ ρ, 0, 0)
  refine qr_istore_n _ 5 rfl (by decide) rfl rfl ?_
  have hL198 : ∀ (n : Nat) (ls : qm_L) (u188 : Int) (σ189 : Nat → Nat → Int), ((120 - σ189 86 36).toNat : Int) < (n : Int) → qm_get ls 0 = some (.ref 86) → qm_get ls 1 = some (.int (qz u188)) → ((-2147483648) ≤ u188 ∧ u188 ≤ 2147483647) → qI σ189 α κ ρ → qFr [(86, 36), (86, 38), (86, 39)] [] σ α σ189 α → σ189 86 35 = (σ 86 35) → σ189 86 37 = (σ 86 37) → qLI (qtT (α 106) (α 107) (σ 86 35)) (σ 86 37) (qtx_lv (qtT (α 106) (α 107) (σ 86 35)) (σ 86 37) (fun b => qtx_on (qtT (α 106) (α 107) (σ 86 35)) (σ 86 37) (α 109) ro b) 3) 1 ((qtx_lv (qtT (α 106) (α 107) (σ 86 35)) (σ 86 37) (fun b => qtx_on (qtT (α 106) (α 107) (σ 86 35)) (σ 86 37) (α 109) ro b) (3 + 1)) (σ 86 36)) u188 (σ189 86 36) (σ189 86 38) → (σ 86 36 ≤ σ189 86 36 ∧ σ189 86 36 ≤ σ 86 37 ∧ σ 86 39 ≤ σ189 86 39 ∧ ((σ189 86 38 = -1 ∧ σ189 86 39 = σ 86 39 ∧ σ 86 36 < σ189 86 36) ∨ σ189 86 38 = σ189 86 36)) → qr_W (qe L xs vb) (d + 2) qx_e215 (fun r w' => ∃ σ', w' = qw σ' α κ ρ ∧ qI σ' α κ ρ ∧ qFr [(86, 36), (86, 38), (86, 39)] [] σ α σ' α ∧ ∃ v : Int, r = some (.int (qz v)) ∧ ((-2147483648) ≤ v ∧ v ≤ 2147483647) ∧ (σ 86 36 ≤ σ' 86 36 ∧ σ' 86 36 ≤ σ 86 37 ∧ σ 86 39 ≤ σ' 86 39 ∧ ((σ' 86 38 = -1 ∧ σ' 86 39 = σ 86 39 ∧ σ 86 36 < σ' 86 36) ∨ σ' 86 38 = σ' 86 36)) ∧ qRes ((qtx_lv (qtT (α 106) (α 107) (σ 86 35)) (σ 86 37) (fun b => qtx_on (qtT (α 106) (α 107) (σ 86 35)) (σ 86 37) (α 109) ro b) (3 + 1)) (σ 86 36)) v (σ' 86 36) (σ' 86 38)) (5, ls, [], qw σ189 α κ ρ, 0, 0) := by
    clear hp6
    intro n
    induction n with
    | zero => intro ls u188 σ189 hm g186 g187 hf195 hI191 hF192 hk193 hk194 hx196 hx197; exact False.elim (by omega)
    | succ n ih199 =>
      intro ls u188 σ189 hm g186 g187 hf195 hI191 hF192 hk193 hk194 hx196 hx197
      have hs200 : 0 ≤ σ189 86 36 ∧ σ189 86 36 ≤ 120 := hI191.1 86 36
      have hs201 : (-1) ≤ σ189 86 38 ∧ σ189 86 38 ≤ 120 := hI191.1 86 38
      have hs202 : 0 ≤ σ189 86 39 ∧ σ189 86 39 ≤ 6 := hI191.1 86 39
      have hcc203 := qtx_c_2 (qtT (α 106) (α 107) (σ 86 35)) (σ 86 37) (σ189 86 36)
      refine qr_aload_n 6 rfl g186 rfl ?_
      refine qr_bipush 8 rfl (by decide) rfl ?_
      refine qr_callN 11 rfl rfl rfl (sf_222_86x (d := d + 0) hI191 (by decide) (by omega)) ?_
      have hs206 : (-1) ≤ σ189 86 35 ∧ σ189 86 35 ≤ 120 := hI191.1 86 35
      have hs207 : σ189 86 35 = (σ 86 35) := (hk193).trans rfl
      have hs208 : 0 ≤ σ189 86 36 ∧ σ189 86 36 ≤ 120 := hI191.1 86 36
      have hs209 : 0 ≤ σ189 86 37 ∧ σ189 86 37 ≤ 120 := hI191.1 86 37
      have hs210 : σ189 86 37 = (σ 86 37) := (hk194).trans rfl
      have hs211 : (-1) ≤ σ189 86 38 ∧ σ189 86 38 ≤ 120 := hI191.1 86 38
      rintro _ _ ⟨σ212, rfl, hI213, hG214, v204, rfl, hv204, hp205⟩
      have hF215 : qFr [(86, 36), (86, 38), (86, 39)] [] σ α σ212 α := qFr_t hF192 hG214 (by decide) (by decide)
      have hs216 : 0 ≤ σ212 86 36 ∧ σ212 86 36 ≤ 120 := hI213.1 86 36
      rw [hF192.1 86 35 (by decide), hF192.1 86 37 (by decide)] at hp205
      show qr_W (qe L xs vb) (d + 2) qx_e215 _ (11, _, [.int (qz v204)], qw σ212 α κ ρ, 0, 0)
      refine qr_if_eq 36 14 rfl rfl rfl (qrg hv204 (by decide) (by decide)) (fun h217 => ?_) (fun h217 => ?_)
      · skip
        refine qr_iload_n 37 rfl g187 rfl ?_
        refine qr_retI rfl rfl (by decide) (by decide) ?_
        have hw218 : σ212 86 36 = (σ212 86 36) := rfl
        have hw219 : σ212 86 38 = (σ189 86 38) := (hG214.1 86 38 (by decide)).trans rfl
        have hw220 : σ212 86 39 = (σ189 86 39) := (hG214.1 86 39 (by decide)).trans rfl
        exact ⟨_, rfl, hI213, hF215, u188, rfl, hf195, by omega, (by rw [show σ212 86 38 = (σ189 86 38) from (hG214.1 86 38 (by decide)).trans rfl]; rw [show σ212 86 36 = σ189 86 36 by omega]; exact (qLI_e hx196 (fun _ => by have hlo := qtx_lo_c (qtx_c (qtT (α 106) (α 107) (σ 86 35)) (σ 86 37) (σ189 86 36)); omega)))⟩
      · skip
        have hdd8 : (σ189 86 38 = -1 ∧ σ189 86 39 = σ 86 39 ∧ σ 86 36 < σ189 86 36) ∧ σ189 86 36 < σ 86 37 ∧ σ212 86 36 = σ189 86 36 + 1 := by omega
        refine qr_aload_n 15 rfl g186 rfl ?_
        have hs221 : 0 ≤ σ212 86 36 ∧ σ212 86 36 ≤ 120 := hI213.1 86 36
        have hs222 : 0 ≤ σ212 86 37 ∧ σ212 86 37 ≤ 120 := hI213.1 86 37
        have hs223 : σ212 86 37 = (σ 86 37) := (hG214.1 86 37 (by decide)).trans ((hk194).trans rfl)
        have hs224 : (-1) ≤ σ212 86 38 ∧ σ212 86 38 ≤ 120 := hI213.1 86 38
        have hs225 : σ212 86 38 = (σ189 86 38) := (hG214.1 86 38 (by decide)).trans rfl
        have hs226 : 0 ≤ σ212 86 39 ∧ σ212 86 39 ≤ 6 := hI213.1 86 39
        have hs227 : σ212 86 39 = (σ189 86 39) := (hG214.1 86 39 (by decide)).trans rfl
        refine qr_callN 18 rfl rfl rfl (ihC hI213 (by omega) (by omega) (by omega)) ?_
        have hs231 : 0 ≤ σ212 86 36 ∧ σ212 86 36 ≤ 120 := hI213.1 86 36
        have hs232 : 0 ≤ σ212 86 37 ∧ σ212 86 37 ≤ 120 := hI213.1 86 37
        have hs233 : σ212 86 37 = (σ 86 37) := (hG214.1 86 37 (by decide)).trans ((hk194).trans rfl)
        have hs234 : 0 ≤ σ212 86 39 ∧ σ212 86 39 ≤ 6 := hI213.1 86 39
        have hs235 : σ212 86 39 = (σ189 86 39) := (hG214.1 86 39 (by decide)).trans rfl
        rintro _ _ ⟨σ236, rfl, hI237, hG238, v228, rfl, hv228, hp229, hx230⟩
        have hF239 : qFr [(86, 36), (86, 38), (86, 39)] [] σ α σ236 α := qFr_t hF215 hG238 (by decide) (by decide)
        have hs240 : 0 ≤ σ236 86 36 ∧ σ236 86 36 ≤ 120 := hI237.1 86 36
        have hs241 : (-1) ≤ σ236 86 38 ∧ σ236 86 38 ≤ 120 := hI237.1 86 38
        have hs242 : 0 ≤ σ236 86 39 ∧ σ236 86 39 ≤ 6 := hI237.1 86 39
        rw [hF215.1 86 37 (by decide), (show σ212 86 39 = (σ189 86 39) from (hG214.1 86 39 (by decide)).trans rfl)] at hp229
        rw [hF215.1 86 35 (by decide), hF215.1 86 37 (by decide)] at hx230
        show qr_W (qe L xs vb) (d + 2) qx_e215 _ (18, _, [.int (qz v228)], qw σ236 α κ ρ, 0, 0)
        refine qr_istore_n _ 19 rfl (by decide) rfl rfl ?_
        refine qr_iload_n 20 rfl (qm_gk g187 (by decide) (Or.inr rfl)) rfl ?_
        refine qr_if_eq 31 23 rfl rfl rfl hf195 (fun h243 => ?_) (fun h243 => ?_)
        · skip
          refine qr_iconst 32 rfl rfl ?_
          refine qr_istore_n _ 33 rfl (by decide) rfl rfl ?_
          refine qr_goto 5 rfl rfl ?_
          exact ih199 _ 0 σ236 (by omega) (qm_gk (qm_gk g186 (by decide) (Or.inl (by decide))) (by decide) (Or.inr rfl)) (qm_ge _ _ _) (by decide) hI237 hF239 ((hG238.1 86 35 (by decide)).trans ((hG214.1 86 35 (by decide)).trans ((hk193).trans rfl))) ((hG238.1 86 37 (by decide)).trans ((hG214.1 86 37 (by decide)).trans ((hk194).trans rfl))) (by have hlo := qtx_lo_c (qtx_c (qtT (α 106) (α 107) (σ 86 35)) (σ 86 37) (σ189 86 36)); have hi : qLI (qtT (α 106) (α 107) (σ 86 35)) (σ 86 37) (qtx_lv (qtT (α 106) (α 107) (σ 86 35)) (σ 86 37) (fun b => qtx_on (qtT (α 106) (α 107) (σ 86 35)) (σ 86 37) (α 109) ro b) 3) 1 ((qtx_lv (qtT (α 106) (α 107) (σ 86 35)) (σ 86 37) (fun b => qtx_on (qtT (α 106) (α 107) (σ 86 35)) (σ 86 37) (α 109) ro b) (3 + 1)) (σ 86 36)) u188 (σ189 86 36) (-1) := (by have h9 := hx196; rwa [show σ189 86 38 = -1 by omega] at h9); exact qLI_s hi (by omega) (by decide) (by omega) (by have h8 := hx230; rwa [show σ212 86 36 = σ189 86 36 + 1 by omega] at h8) (by omega) (fun _ => qap_and (by omega) (by omega))) (by omega)
        · skip
          refine qr_iload_n 24 rfl (qm_ge _ _ _) rfl ?_
          refine qr_if_eq 31 27 rfl rfl rfl hv228 (fun h244 => ?_) (fun h244 => ?_)
          · skip
            refine qr_iconst 32 rfl rfl ?_
            refine qr_istore_n _ 33 rfl (by decide) rfl rfl ?_
            refine qr_goto 5 rfl rfl ?_
            exact ih199 _ 0 σ236 (by omega) (qm_gk (qm_gk g186 (by decide) (Or.inl (by decide))) (by decide) (Or.inr rfl)) (qm_ge _ _ _) (by decide) hI237 hF239 ((hG238.1 86 35 (by decide)).trans ((hG214.1 86 35 (by decide)).trans ((hk193).trans rfl))) ((hG238.1 86 37 (by decide)).trans ((hG214.1 86 37 (by decide)).trans ((hk194).trans rfl))) (by have hlo := qtx_lo_c (qtx_c (qtT (α 106) (α 107) (σ 86 35)) (σ 86 37) (σ189 86 36)); have hi : qLI (qtT (α 106) (α 107) (σ 86 35)) (σ 86 37) (qtx_lv (qtT (α 106) (α 107) (σ 86 35)) (σ 86 37) (fun b => qtx_on (qtT (α 106) (α 107) (σ 86 35)) (σ 86 37) (α 109) ro b) 3) 1 ((qtx_lv (qtT (α 106) (α 107) (σ 86 35)) (σ 86 37) (fun b => qtx_on (qtT (α 106) (α 107) (σ 86 35)) (σ 86 37) (α 109) ro b) (3 + 1)) (σ 86 36)) u188 (σ189 86 36) (-1) := (by have h9 := hx196; rwa [show σ189 86 38 = -1 by omega] at h9); exact qLI_s hi (by omega) (by decide) (by omega) (by have h8 := hx230; rwa [show σ212 86 36 = σ189 86 36 + 1 by omega] at h8) (by omega) (fun _ => qap_and (by omega) (by omega))) (by omega)
          · skip
            refine qr_iconst 28 rfl rfl ?_
            refine qr_goto 32 rfl rfl ?_
            refine qr_istore_n _ 33 rfl (by decide) rfl rfl ?_
            refine qr_goto 5 rfl rfl ?_
            exact ih199 _ 1 σ236 (by omega) (qm_gk (qm_gk g186 (by decide) (Or.inl (by decide))) (by decide) (Or.inr rfl)) (qm_ge _ _ _) (by decide) hI237 hF239 ((hG238.1 86 35 (by decide)).trans ((hG214.1 86 35 (by decide)).trans ((hk193).trans rfl))) ((hG238.1 86 37 (by decide)).trans ((hG214.1 86 37 (by decide)).trans ((hk194).trans rfl))) (by have hlo := qtx_lo_c (qtx_c (qtT (α 106) (α 107) (σ 86 35)) (σ 86 37) (σ189 86 36)); have hi : qLI (qtT (α 106) (α 107) (σ 86 35)) (σ 86 37) (qtx_lv (qtT (α 106) (α 107) (σ 86 35)) (σ 86 37) (fun b => qtx_on (qtT (α 106) (α 107) (σ 86 35)) (σ 86 37) (α 109) ro b) 3) 1 ((qtx_lv (qtT (α 106) (α 107) (σ 86 35)) (σ 86 37) (fun b => qtx_on (qtT (α 106) (α 107) (σ 86 35)) (σ 86 37) (α 109) ro b) (3 + 1)) (σ 86 36)) u188 (σ189 86 36) (-1) := (by have h9 := hx196; rwa [show σ189 86 38 = -1 by omega] at h9); exact qLI_s hi (by omega) (by decide) (by omega) (by have h8 := hx230; rwa [show σ212 86 36 = σ189 86 36 + 1 by omega] at h8) (by omega) (fun _ => qap_and (by omega) (by omega))) (by omega)
  exact hL198 ((((120 - σ11 86 36).toNat : Int) + 1 : Int)).toNat _ v5 σ11 (by omega) rfl rfl hv5 hI12 hF14 ((hG13.1 86 35 (by decide)).trans rfl) ((hG13.1 86 37 (by decide)).trans rfl) (by exact qLI_0 hx7 ⟨by omega, by omega⟩) (by omega)

set_option maxHeartbeats 4000000 in
set_option maxRecDepth 20000 in
/-- OneRoofModel.either -/
theorem sf_214_86x {L : Nat} {xs : Nat → Int} {vb : Bool} {d : Nat} {σ α : Nat → Nat → Int} {κ : Nat → Option Nat} {ρ : Nat} {ro : Nat} (ihC : ∀ {σ α : Nat → Nat → Int}, qI σ α κ ρ → σ 86 36 ≤ σ 86 37 → σ 86 38 = -1 → σ 86 39 + (ro : Int) = 6 → qm_T (qe L xs vb) (d + 2) 215 [.ref 86] (qw σ α κ ρ) (fun r w' => ∃ σ', w' = qw σ' α κ ρ ∧ qI σ' α κ ρ ∧ qFr [(86, 36), (86, 38), (86, 39)] [] σ α σ' α ∧ ∃ v : Int, r = some (.int (qz v)) ∧ ((-2147483648) ≤ v ∧ v ≤ 2147483647) ∧ (σ 86 36 ≤ σ' 86 36 ∧ σ' 86 36 ≤ σ 86 37 ∧ σ 86 39 ≤ σ' 86 39 ∧ ((σ' 86 38 = -1 ∧ σ' 86 39 = σ 86 39 ∧ σ 86 36 < σ' 86 36) ∨ σ' 86 38 = σ' 86 36)) ∧ qRes ((qtx_lv (qtT (α 106) (α 107) (σ 86 35)) (σ 86 37) (fun b => qtx_on (qtT (α 106) (α 107) (σ 86 35)) (σ 86 37) (α 109) ro b) 4) (σ 86 36)) v (σ' 86 36) (σ' 86 38))) (hI : qI σ α κ ρ) (p0 : σ 86 36 ≤ σ 86 37) (p1 : σ 86 38 = -1) (p2 : σ 86 39 + (ro : Int) = 6) : qm_T (qe L xs vb) (d + 3) 214 [.ref 86] (qw σ α κ ρ) (fun r w' => ∃ σ', w' = qw σ' α κ ρ ∧ qI σ' α κ ρ ∧ qFr [(86, 36), (86, 38), (86, 39)] [] σ α σ' α ∧ ∃ v : Int, r = some (.int (qz v)) ∧ ((-2147483648) ≤ v ∧ v ≤ 2147483647) ∧ (σ 86 36 ≤ σ' 86 36 ∧ σ' 86 36 ≤ σ 86 37 ∧ σ 86 39 ≤ σ' 86 39 ∧ ((σ' 86 38 = -1 ∧ σ' 86 39 = σ 86 39 ∧ σ 86 36 < σ' 86 36) ∨ σ' 86 38 = σ' 86 36)) ∧ qRes ((qtx_lv (qtT (α 106) (α 107) (σ 86 35)) (σ 86 37) (fun b => qtx_on (qtT (α 106) (α 107) (σ 86 35)) (σ 86 37) (α 109) ro b) (4 + 1)) (σ 86 36)) v (σ' 86 36) (σ' 86 38)) := by
  refine qr_start (d := d + 2) qv_e214 (Nat.le_of_ble_eq_true rfl) ?_
  show qr_W (qe L xs vb) (d + 2) qx_e214 _ (0, [(0, .ref 86)], [], _, 0, 0)
  have hF0 := qFr_rf [(86, 36), (86, 38), (86, 39)] [] σ α
  have hz86_36 : 0 ≤ σ 86 36 ∧ σ 86 36 ≤ 120 := hI.1 86 36
  have hz86_37 : 0 ≤ σ 86 37 ∧ σ 86 37 ≤ 120 := hI.1 86 37
  have hz86_39 : 0 ≤ σ 86 39 ∧ σ 86 39 ≤ 6 := hI.1 86 39
  have hz86_38 : (-1) ≤ σ 86 38 ∧ σ 86 38 ≤ 120 := hI.1 86 38
  have hz86_35 : (-1) ≤ σ 86 35 ∧ σ 86 35 ≤ 120 := hI.1 86 35
  refine qr_aload_n 1 rfl rfl rfl ?_
  have hs1 : 0 ≤ σ 86 36 ∧ σ 86 36 ≤ 120 := hI.1 86 36
  have hs2 : 0 ≤ σ 86 37 ∧ σ 86 37 ≤ 120 := hI.1 86 37
  have hs3 : (-1) ≤ σ 86 38 ∧ σ 86 38 ≤ 120 := hI.1 86 38
  have hs4 : 0 ≤ σ 86 39 ∧ σ 86 39 ≤ 6 := hI.1 86 39
  refine qr_callN 4 rfl rfl rfl (ihC hI (by omega) (by omega) (by omega)) ?_
  have hs8 : 0 ≤ σ 86 36 ∧ σ 86 36 ≤ 120 := hI.1 86 36
  have hs9 : 0 ≤ σ 86 37 ∧ σ 86 37 ≤ 120 := hI.1 86 37
  have hs10 : 0 ≤ σ 86 39 ∧ σ 86 39 ≤ 6 := hI.1 86 39
  rintro _ _ ⟨σ11, rfl, hI12, hG13, v5, rfl, hv5, hp6, hx7⟩
  have hF14 : qFr [(86, 36), (86, 38), (86, 39)] [] σ α σ11 α := qFr_t hF0 hG13 (by decide) (by decide)
  have hs15 : 0 ≤ σ11 86 36 ∧ σ11 86 36 ≤ 120 := hI12.1 86 36
  have hs16 : (-1) ≤ σ11 86 38 ∧ σ11 86 38 ≤ 120 := hI12.1 86 38
  have hs17 : 0 ≤ σ11 86 39 ∧ σ11 86 39 ≤ 6 := hI12.1 86 39
  show qr_W (qe L xs vb) (d + 2) qx_e214 _ (4, _, [.int (qz v5)], qw σ11 α κ ρ, 0, 0)
  refine qr_istore_n _ 5 rfl (by decide) rfl rfl ?_
  have hL198 : ∀ (n : Nat) (ls : qm_L) (u188 : Int) (σ189 : Nat → Nat → Int), ((120 - σ189 86 36).toNat : Int) < (n : Int) → qm_get ls 0 = some (.ref 86) → qm_get ls 1 = some (.int (qz u188)) → ((-2147483648) ≤ u188 ∧ u188 ≤ 2147483647) → qI σ189 α κ ρ → qFr [(86, 36), (86, 38), (86, 39)] [] σ α σ189 α → σ189 86 35 = (σ 86 35) → σ189 86 37 = (σ 86 37) → qLI (qtT (α 106) (α 107) (σ 86 35)) (σ 86 37) (qtx_lv (qtT (α 106) (α 107) (σ 86 35)) (σ 86 37) (fun b => qtx_on (qtT (α 106) (α 107) (σ 86 35)) (σ 86 37) (α 109) ro b) 4) 0 ((qtx_lv (qtT (α 106) (α 107) (σ 86 35)) (σ 86 37) (fun b => qtx_on (qtT (α 106) (α 107) (σ 86 35)) (σ 86 37) (α 109) ro b) (4 + 1)) (σ 86 36)) u188 (σ189 86 36) (σ189 86 38) → (σ 86 36 ≤ σ189 86 36 ∧ σ189 86 36 ≤ σ 86 37 ∧ σ 86 39 ≤ σ189 86 39 ∧ ((σ189 86 38 = -1 ∧ σ189 86 39 = σ 86 39 ∧ σ 86 36 < σ189 86 36) ∨ σ189 86 38 = σ189 86 36)) → qr_W (qe L xs vb) (d + 2) qx_e214 (fun r w' => ∃ σ', w' = qw σ' α κ ρ ∧ qI σ' α κ ρ ∧ qFr [(86, 36), (86, 38), (86, 39)] [] σ α σ' α ∧ ∃ v : Int, r = some (.int (qz v)) ∧ ((-2147483648) ≤ v ∧ v ≤ 2147483647) ∧ (σ 86 36 ≤ σ' 86 36 ∧ σ' 86 36 ≤ σ 86 37 ∧ σ 86 39 ≤ σ' 86 39 ∧ ((σ' 86 38 = -1 ∧ σ' 86 39 = σ 86 39 ∧ σ 86 36 < σ' 86 36) ∨ σ' 86 38 = σ' 86 36)) ∧ qRes ((qtx_lv (qtT (α 106) (α 107) (σ 86 35)) (σ 86 37) (fun b => qtx_on (qtT (α 106) (α 107) (σ 86 35)) (σ 86 37) (α 109) ro b) (4 + 1)) (σ 86 36)) v (σ' 86 36) (σ' 86 38)) (5, ls, [], qw σ189 α κ ρ, 0, 0) := by
    clear hp6
    intro n
    induction n with
    | zero => intro ls u188 σ189 hm g186 g187 hf195 hI191 hF192 hk193 hk194 hx196 hx197; exact False.elim (by omega)
    | succ n ih199 =>
      intro ls u188 σ189 hm g186 g187 hf195 hI191 hF192 hk193 hk194 hx196 hx197
      have hs200 : 0 ≤ σ189 86 36 ∧ σ189 86 36 ≤ 120 := hI191.1 86 36
      have hs201 : (-1) ≤ σ189 86 38 ∧ σ189 86 38 ≤ 120 := hI191.1 86 38
      have hs202 : 0 ≤ σ189 86 39 ∧ σ189 86 39 ≤ 6 := hI191.1 86 39
      have hcc203 := qtx_c_2 (qtT (α 106) (α 107) (σ 86 35)) (σ 86 37) (σ189 86 36)
      refine qr_aload_n 6 rfl g186 rfl ?_
      refine qr_bipush 8 rfl (by decide) rfl ?_
      refine qr_callN 11 rfl rfl rfl (sf_222_86x (d := d + 0) hI191 (by decide) (by omega)) ?_
      have hs206 : (-1) ≤ σ189 86 35 ∧ σ189 86 35 ≤ 120 := hI191.1 86 35
      have hs207 : σ189 86 35 = (σ 86 35) := (hk193).trans rfl
      have hs208 : 0 ≤ σ189 86 36 ∧ σ189 86 36 ≤ 120 := hI191.1 86 36
      have hs209 : 0 ≤ σ189 86 37 ∧ σ189 86 37 ≤ 120 := hI191.1 86 37
      have hs210 : σ189 86 37 = (σ 86 37) := (hk194).trans rfl
      have hs211 : (-1) ≤ σ189 86 38 ∧ σ189 86 38 ≤ 120 := hI191.1 86 38
      rintro _ _ ⟨σ212, rfl, hI213, hG214, v204, rfl, hv204, hp205⟩
      have hF215 : qFr [(86, 36), (86, 38), (86, 39)] [] σ α σ212 α := qFr_t hF192 hG214 (by decide) (by decide)
      have hs216 : 0 ≤ σ212 86 36 ∧ σ212 86 36 ≤ 120 := hI213.1 86 36
      rw [hF192.1 86 35 (by decide), hF192.1 86 37 (by decide)] at hp205
      show qr_W (qe L xs vb) (d + 2) qx_e214 _ (11, _, [.int (qz v204)], qw σ212 α κ ρ, 0, 0)
      refine qr_if_eq 36 14 rfl rfl rfl (qrg hv204 (by decide) (by decide)) (fun h217 => ?_) (fun h217 => ?_)
      · skip
        refine qr_iload_n 37 rfl g187 rfl ?_
        refine qr_retI rfl rfl (by decide) (by decide) ?_
        have hw218 : σ212 86 36 = (σ212 86 36) := rfl
        have hw219 : σ212 86 38 = (σ189 86 38) := (hG214.1 86 38 (by decide)).trans rfl
        have hw220 : σ212 86 39 = (σ189 86 39) := (hG214.1 86 39 (by decide)).trans rfl
        exact ⟨_, rfl, hI213, hF215, u188, rfl, hf195, by omega, (by rw [show σ212 86 38 = (σ189 86 38) from (hG214.1 86 38 (by decide)).trans rfl]; rw [show σ212 86 36 = σ189 86 36 by omega]; exact (qLI_e hx196 (fun _ => by have hlo := qtx_lo_c (qtx_c (qtT (α 106) (α 107) (σ 86 35)) (σ 86 37) (σ189 86 36)); omega)))⟩
      · skip
        have hdd9 : (σ189 86 38 = -1 ∧ σ189 86 39 = σ 86 39 ∧ σ 86 36 < σ189 86 36) ∧ σ189 86 36 < σ 86 37 ∧ σ212 86 36 = σ189 86 36 + 1 := by omega
        refine qr_aload_n 15 rfl g186 rfl ?_
        have hs221 : 0 ≤ σ212 86 36 ∧ σ212 86 36 ≤ 120 := hI213.1 86 36
        have hs222 : 0 ≤ σ212 86 37 ∧ σ212 86 37 ≤ 120 := hI213.1 86 37
        have hs223 : σ212 86 37 = (σ 86 37) := (hG214.1 86 37 (by decide)).trans ((hk194).trans rfl)
        have hs224 : (-1) ≤ σ212 86 38 ∧ σ212 86 38 ≤ 120 := hI213.1 86 38
        have hs225 : σ212 86 38 = (σ189 86 38) := (hG214.1 86 38 (by decide)).trans rfl
        have hs226 : 0 ≤ σ212 86 39 ∧ σ212 86 39 ≤ 6 := hI213.1 86 39
        have hs227 : σ212 86 39 = (σ189 86 39) := (hG214.1 86 39 (by decide)).trans rfl
        refine qr_callN 18 rfl rfl rfl (ihC hI213 (by omega) (by omega) (by omega)) ?_
        have hs231 : 0 ≤ σ212 86 36 ∧ σ212 86 36 ≤ 120 := hI213.1 86 36
        have hs232 : 0 ≤ σ212 86 37 ∧ σ212 86 37 ≤ 120 := hI213.1 86 37
        have hs233 : σ212 86 37 = (σ 86 37) := (hG214.1 86 37 (by decide)).trans ((hk194).trans rfl)
        have hs234 : 0 ≤ σ212 86 39 ∧ σ212 86 39 ≤ 6 := hI213.1 86 39
        have hs235 : σ212 86 39 = (σ189 86 39) := (hG214.1 86 39 (by decide)).trans rfl
        rintro _ _ ⟨σ236, rfl, hI237, hG238, v228, rfl, hv228, hp229, hx230⟩
        have hF239 : qFr [(86, 36), (86, 38), (86, 39)] [] σ α σ236 α := qFr_t hF215 hG238 (by decide) (by decide)
        have hs240 : 0 ≤ σ236 86 36 ∧ σ236 86 36 ≤ 120 := hI237.1 86 36
        have hs241 : (-1) ≤ σ236 86 38 ∧ σ236 86 38 ≤ 120 := hI237.1 86 38
        have hs242 : 0 ≤ σ236 86 39 ∧ σ236 86 39 ≤ 6 := hI237.1 86 39
        rw [hF215.1 86 37 (by decide), (show σ212 86 39 = (σ189 86 39) from (hG214.1 86 39 (by decide)).trans rfl)] at hp229
        rw [hF215.1 86 35 (by decide), hF215.1 86 37 (by decide)] at hx230
        show qr_W (qe L xs vb) (d + 2) qx_e214 _ (18, _, [.int (qz v228)], qw σ236 α κ ρ, 0, 0)
        refine qr_istore_n _ 19 rfl (by decide) rfl rfl ?_
        refine qr_iload_n 20 rfl (qm_gk g187 (by decide) (Or.inr rfl)) rfl ?_
        refine qr_if_ne 27 23 rfl rfl rfl hf195 (fun h243 => ?_) (fun h243 => ?_)
        · skip
          refine qr_iconst 28 rfl rfl ?_
          refine qr_goto 32 rfl rfl ?_
          refine qr_istore_n _ 33 rfl (by decide) rfl rfl ?_
          refine qr_goto 5 rfl rfl ?_
          exact ih199 _ 1 σ236 (by omega) (qm_gk (qm_gk g186 (by decide) (Or.inl (by decide))) (by decide) (Or.inr rfl)) (qm_ge _ _ _) (by decide) hI237 hF239 ((hG238.1 86 35 (by decide)).trans ((hG214.1 86 35 (by decide)).trans ((hk193).trans rfl))) ((hG238.1 86 37 (by decide)).trans ((hG214.1 86 37 (by decide)).trans ((hk194).trans rfl))) (by have hlo := qtx_lo_c (qtx_c (qtT (α 106) (α 107) (σ 86 35)) (σ 86 37) (σ189 86 36)); have hi : qLI (qtT (α 106) (α 107) (σ 86 35)) (σ 86 37) (qtx_lv (qtT (α 106) (α 107) (σ 86 35)) (σ 86 37) (fun b => qtx_on (qtT (α 106) (α 107) (σ 86 35)) (σ 86 37) (α 109) ro b) 4) 0 ((qtx_lv (qtT (α 106) (α 107) (σ 86 35)) (σ 86 37) (fun b => qtx_on (qtT (α 106) (α 107) (σ 86 35)) (σ 86 37) (α 109) ro b) (4 + 1)) (σ 86 36)) u188 (σ189 86 36) (-1) := (by have h9 := hx196; rwa [show σ189 86 38 = -1 by omega] at h9); exact qLI_s hi (by omega) (by decide) (by omega) (by have h8 := hx230; rwa [show σ212 86 36 = σ189 86 36 + 1 by omega] at h8) (by omega) (fun _ => qap_or (by omega) (by omega))) (by omega)
        · skip
          refine qr_iload_n 24 rfl (qm_ge _ _ _) rfl ?_
          refine qr_if_eq 31 27 rfl rfl rfl hv228 (fun h244 => ?_) (fun h244 => ?_)
          · skip
            refine qr_iconst 32 rfl rfl ?_
            refine qr_istore_n _ 33 rfl (by decide) rfl rfl ?_
            refine qr_goto 5 rfl rfl ?_
            exact ih199 _ 0 σ236 (by omega) (qm_gk (qm_gk g186 (by decide) (Or.inl (by decide))) (by decide) (Or.inr rfl)) (qm_ge _ _ _) (by decide) hI237 hF239 ((hG238.1 86 35 (by decide)).trans ((hG214.1 86 35 (by decide)).trans ((hk193).trans rfl))) ((hG238.1 86 37 (by decide)).trans ((hG214.1 86 37 (by decide)).trans ((hk194).trans rfl))) (by have hlo := qtx_lo_c (qtx_c (qtT (α 106) (α 107) (σ 86 35)) (σ 86 37) (σ189 86 36)); have hi : qLI (qtT (α 106) (α 107) (σ 86 35)) (σ 86 37) (qtx_lv (qtT (α 106) (α 107) (σ 86 35)) (σ 86 37) (fun b => qtx_on (qtT (α 106) (α 107) (σ 86 35)) (σ 86 37) (α 109) ro b) 4) 0 ((qtx_lv (qtT (α 106) (α 107) (σ 86 35)) (σ 86 37) (fun b => qtx_on (qtT (α 106) (α 107) (σ 86 35)) (σ 86 37) (α 109) ro b) (4 + 1)) (σ 86 36)) u188 (σ189 86 36) (-1) := (by have h9 := hx196; rwa [show σ189 86 38 = -1 by omega] at h9); exact qLI_s hi (by omega) (by decide) (by omega) (by have h8 := hx230; rwa [show σ212 86 36 = σ189 86 36 + 1 by omega] at h8) (by omega) (fun _ => qap_or (by omega) (by omega))) (by omega)
          · skip
            refine qr_iconst 28 rfl rfl ?_
            refine qr_goto 32 rfl rfl ?_
            refine qr_istore_n _ 33 rfl (by decide) rfl rfl ?_
            refine qr_goto 5 rfl rfl ?_
            exact ih199 _ 1 σ236 (by omega) (qm_gk (qm_gk g186 (by decide) (Or.inl (by decide))) (by decide) (Or.inr rfl)) (qm_ge _ _ _) (by decide) hI237 hF239 ((hG238.1 86 35 (by decide)).trans ((hG214.1 86 35 (by decide)).trans ((hk193).trans rfl))) ((hG238.1 86 37 (by decide)).trans ((hG214.1 86 37 (by decide)).trans ((hk194).trans rfl))) (by have hlo := qtx_lo_c (qtx_c (qtT (α 106) (α 107) (σ 86 35)) (σ 86 37) (σ189 86 36)); have hi : qLI (qtT (α 106) (α 107) (σ 86 35)) (σ 86 37) (qtx_lv (qtT (α 106) (α 107) (σ 86 35)) (σ 86 37) (fun b => qtx_on (qtT (α 106) (α 107) (σ 86 35)) (σ 86 37) (α 109) ro b) 4) 0 ((qtx_lv (qtT (α 106) (α 107) (σ 86 35)) (σ 86 37) (fun b => qtx_on (qtT (α 106) (α 107) (σ 86 35)) (σ 86 37) (α 109) ro b) (4 + 1)) (σ 86 36)) u188 (σ189 86 36) (-1) := (by have h9 := hx196; rwa [show σ189 86 38 = -1 by omega] at h9); exact qLI_s hi (by omega) (by decide) (by omega) (by have h8 := hx230; rwa [show σ212 86 36 = σ189 86 36 + 1 by omega] at h8) (by omega) (fun _ => qap_or (by omega) (by omega))) (by omega)
  exact hL198 ((((120 - σ11 86 36).toNat : Int) + 1 : Int)).toNat _ v5 σ11 (by omega) rfl rfl hv5 hI12 hF14 ((hG13.1 86 35 (by decide)).trans rfl) ((hG13.1 86 37 (by decide)).trans rfl) (by exact qLI_0 hx7 ⟨by omega, by omega⟩) (by omega)
end
section
set_option maxHeartbeats 4000000 in
set_option maxRecDepth 20000 in
/-- OneRoofModel.one -/
theorem sf_219_86x {L : Nat} {xs : Nat → Int} {vb : Bool} {d : Nat} {σ α : Nat → Nat → Int} {κ : Nat → Option Nat} {ρ : Nat} {ro : Nat} (ihE : ∀ {σ α : Nat → Nat → Int}, qI σ α κ ρ → 0 < ro → σ 86 36 ≤ σ 86 37 → σ 86 38 = -1 → σ 86 39 + ((ro - 1 : Nat) : Int) = 6 → qm_T (qe L xs vb) (d + 2) 214 [.ref 86] (qw σ α κ ρ) (fun r w' => ∃ σ', w' = qw σ' α κ ρ ∧ qI σ' α κ ρ ∧ qFr [(86, 36), (86, 38), (86, 39)] [] σ α σ' α ∧ ∃ v : Int, r = some (.int (qz v)) ∧ ((-2147483648) ≤ v ∧ v ≤ 2147483647) ∧ (σ 86 36 ≤ σ' 86 36 ∧ σ' 86 36 ≤ σ 86 37 ∧ σ 86 39 ≤ σ' 86 39 ∧ ((σ' 86 38 = -1 ∧ σ' 86 39 = σ 86 39 ∧ σ 86 36 < σ' 86 36) ∨ σ' 86 38 = σ' 86 36)) ∧ qRes ((qtx_lv (qtT (α 106) (α 107) (σ 86 35)) (σ 86 37) (fun b => qtx_on (qtT (α 106) (α 107) (σ 86 35)) (σ 86 37) (α 109) (ro - 1) b) 5) (σ 86 36)) v (σ' 86 36) (σ' 86 38))) (ihO : ∀ {σ α : Nat → Nat → Int}, qI σ α κ ρ → 0 < ro → σ 86 36 ≤ σ 86 37 → σ 86 38 = -1 → σ 86 39 + ((ro - 1 : Nat) : Int) = 6 → qm_T (qe L xs vb) (d + 2) 219 [.ref 86] (qw σ α κ ρ) (fun r w' => ∃ σ', w' = qw σ' α κ ρ ∧ qI σ' α κ ρ ∧ qFr [(86, 36), (86, 38), (86, 39)] [] σ α σ' α ∧ ∃ v : Int, r = some (.int (qz v)) ∧ ((-2147483648) ≤ v ∧ v ≤ 2147483647) ∧ (σ 86 36 ≤ σ' 86 36 ∧ σ' 86 36 ≤ σ 86 37 ∧ σ 86 39 ≤ σ' 86 39 ∧ ((σ' 86 38 = -1 ∧ σ' 86 39 = σ 86 39 ∧ σ 86 36 < σ' 86 36) ∨ σ' 86 38 = σ' 86 36)) ∧ qRes ((fun b => qtx_on (qtT (α 106) (α 107) (σ 86 35)) (σ 86 37) (α 109) (ro - 1) b) (σ 86 36)) v (σ' 86 36) (σ' 86 38))) (hI : qI σ α κ ρ) (p0 : σ 86 36 ≤ σ 86 37) (p1 : σ 86 38 = -1) (p2 : σ 86 39 + (ro : Int) = 6) : qm_T (qe L xs vb) (d + 3) 219 [.ref 86] (qw σ α κ ρ) (fun r w' => ∃ σ', w' = qw σ' α κ ρ ∧ qI σ' α κ ρ ∧ qFr [(86, 36), (86, 38), (86, 39)] [] σ α σ' α ∧ ∃ v : Int, r = some (.int (qz v)) ∧ ((-2147483648) ≤ v ∧ v ≤ 2147483647) ∧ (σ 86 36 ≤ σ' 86 36 ∧ σ' 86 36 ≤ σ 86 37 ∧ σ 86 39 ≤ σ' 86 39 ∧ ((σ' 86 38 = -1 ∧ σ' 86 39 = σ 86 39 ∧ σ 86 36 < σ' 86 36) ∨ σ' 86 38 = σ' 86 36)) ∧ qRes ((fun b => qtx_on (qtT (α 106) (α 107) (σ 86 35)) (σ 86 37) (α 109) ro b) (σ 86 36)) v (σ' 86 36) (σ' 86 38)) := by
  refine qr_start (d := d + 2) qv_e219 (Nat.le_of_ble_eq_true rfl) ?_
  show qr_W (qe L xs vb) (d + 2) qx_e219 _ (0, [(0, .ref 86)], [], _, 0, 0)
  have hF0 := qFr_rf [(86, 36), (86, 38), (86, 39)] [] σ α
  have hz86_36 : 0 ≤ σ 86 36 ∧ σ 86 36 ≤ 120 := hI.1 86 36
  have hz86_37 : 0 ≤ σ 86 37 ∧ σ 86 37 ≤ 120 := hI.1 86 37
  have hz86_39 : 0 ≤ σ 86 39 ∧ σ 86 39 ≤ 6 := hI.1 86 39
  have hz86_38 : (-1) ≤ σ 86 38 ∧ σ 86 38 ≤ 120 := hI.1 86 38
  have hz86_35 : (-1) ≤ σ 86 35 ∧ σ 86 35 ≤ 120 := hI.1 86 35
  refine qr_aload_n 1 rfl rfl rfl ?_
  refine qr_get 4 rfl rfl rfl (by decide) rfl ?_
  refine qr_if_lt 9 7 rfl rfl rfl (qrg hz86_38 (by decide) (by decide)) (fun h1 => ?_) (fun h => False.elim (by omega))
  refine qr_aload_n 10 rfl rfl rfl ?_
  refine qr_callN 13 rfl rfl rfl (sf_220_86x (d := d + 1) hI ) ?_
  have hs4 : (-1) ≤ σ 86 35 ∧ σ 86 35 ≤ 120 := hI.1 86 35
  have hs5 : 0 ≤ σ 86 36 ∧ σ 86 36 ≤ 120 := hI.1 86 36
  have hs6 : 0 ≤ σ 86 37 ∧ σ 86 37 ≤ 120 := hI.1 86 37
  rintro _ _ ⟨rfl, v2, rfl, hv2, hp3⟩
  show qr_W (qe L xs vb) (d + 2) qx_e219 _ (13, _, [.int (qz v2)], qw σ α κ ρ, 0, 0)
  refine qr_istore_n _ 14 rfl (by decide) rfl rfl ?_
  refine qr_iload_n 15 rfl rfl rfl ?_
  refine qr_bipush 17 rfl (by decide) rfl ?_
  refine qr_icmp_eq 32 20 rfl rfl rfl hv2 (by decide) (fun h7 => ?_) (fun h7 => ?_)
  · skip
    refine qr_aload_n 33 rfl rfl rfl ?_
    refine qr_get 36 rfl rfl rfl (by decide) rfl ?_
    refine qr_bipush 38 rfl (by decide) rfl ?_
    refine qr_icmp_ne 46 41 rfl rfl rfl (qrg hz86_39 (by decide) (by decide)) (by decide) (fun h8 => ?_) (fun h8 => ?_)
    · skip
      refine qr_aload_n 47 rfl rfl rfl ?_
      refine qr_dup 48 rfl rfl rfl ?_
      refine qr_get 51 rfl rfl rfl (by decide) rfl ?_
      refine qr_iconst 52 rfl rfl ?_
      refine qr_iadd 53 rfl rfl ?_
      refine qr_put 56 rfl (by decide) rfl (Nat.le_of_ble_eq_true rfl) (Nat.le_of_ble_eq_true rfl) (Or.inl rfl) (qr_fitI rfl _) rfl ?_
      refine qy_wS (qw_s σ 86 39 ((σ 86 39) + 1)) rfl (fun σ9 e10 => ?_)
      have hI11 : qI σ9 α κ ρ := by rw [e10]; exact qI_s hI 86 39 rfl (show 0 ≤ ((σ 86 39) + 1) ∧ ((σ 86 39) + 1) ≤ 6 by omega)
      have hF12 : qFr [(86, 36), (86, 38), (86, 39)] [] σ α σ9 α := by rw [e10]; exact qFr_s hF0 86 39 _ (by decide)
      refine qr_aload_n 57 rfl rfl rfl ?_
      refine qr_dup 58 rfl rfl rfl ?_
      refine qr_get 61 rfl rfl rfl (by decide) rfl ?_
      refine qy_v (σ 86 36) ((congrFun (congrFun e10 86) 36).trans rfl) ?_
      refine qr_iconst 62 rfl rfl ?_
      refine qr_iadd 63 rfl rfl ?_
      refine qr_put 66 rfl (by decide) rfl (Nat.le_of_ble_eq_true rfl) (Nat.le_of_ble_eq_true rfl) (Or.inl rfl) (qr_fitI rfl _) rfl ?_
      refine qy_wS (qw_s σ9 86 36 ((σ 86 36) + 1)) rfl (fun σ13 e14 => ?_)
      have hI15 : qI σ13 α κ ρ := by rw [e14]; exact qI_s hI11 86 36 rfl (show 0 ≤ ((σ 86 36) + 1) ∧ ((σ 86 36) + 1) ≤ 120 by omega)
      have hF16 : qFr [(86, 36), (86, 38), (86, 39)] [] σ α σ13 α := by rw [e14]; exact qFr_s hF12 86 36 _ (by decide)
      refine qr_iload_n 67 rfl rfl rfl ?_
      refine qr_bipush 69 rfl (by decide) rfl ?_
      refine qr_icmp_ne 79 72 rfl rfl rfl hv2 (by decide) (fun h17 => ?_) (fun h => False.elim (by omega))
      refine qr_aload_n 80 rfl rfl rfl ?_
      have hs18 : 0 ≤ σ13 86 36 ∧ σ13 86 36 ≤ 120 := hI15.1 86 36
      have hs19 : σ13 86 36 = ((σ 86 36) + 1) := (congrFun (congrFun e14 86) 36).trans rfl
      have hs20 : 0 ≤ σ13 86 37 ∧ σ13 86 37 ≤ 120 := hI15.1 86 37
      have hs21 : σ13 86 37 = (σ 86 37) := (congrFun (congrFun e14 86) 37).trans ((congrFun (congrFun e10 86) 37).trans rfl)
      have hs22 : (-1) ≤ σ13 86 38 ∧ σ13 86 38 ≤ 120 := hI15.1 86 38
      have hs23 : σ13 86 38 = (σ 86 38) := (congrFun (congrFun e14 86) 38).trans ((congrFun (congrFun e10 86) 38).trans rfl)
      have hs24 : 0 ≤ σ13 86 39 ∧ σ13 86 39 ≤ 6 := hI15.1 86 39
      have hs25 : σ13 86 39 = ((σ 86 39) + 1) := (congrFun (congrFun e14 86) 39).trans ((congrFun (congrFun e10 86) 39).trans rfl)
      refine qr_callN 83 rfl rfl rfl (ihO hI15 (by omega) (by omega) (by omega) (by omega)) ?_
      have hs29 : 0 ≤ σ13 86 36 ∧ σ13 86 36 ≤ 120 := hI15.1 86 36
      have hs30 : σ13 86 36 = ((σ 86 36) + 1) := (congrFun (congrFun e14 86) 36).trans rfl
      have hs31 : 0 ≤ σ13 86 37 ∧ σ13 86 37 ≤ 120 := hI15.1 86 37
      have hs32 : σ13 86 37 = (σ 86 37) := (congrFun (congrFun e14 86) 37).trans ((congrFun (congrFun e10 86) 37).trans rfl)
      have hs33 : 0 ≤ σ13 86 39 ∧ σ13 86 39 ≤ 6 := hI15.1 86 39
      have hs34 : σ13 86 39 = ((σ 86 39) + 1) := (congrFun (congrFun e14 86) 39).trans ((congrFun (congrFun e10 86) 39).trans rfl)
      rintro _ _ ⟨σ35, rfl, hI36, hG37, v26, rfl, hv26, hp27, hx28⟩
      have hF38 : qFr [(86, 36), (86, 38), (86, 39)] [] σ α σ35 α := qFr_t hF16 hG37 (by decide) (by decide)
      have hs39 : 0 ≤ σ35 86 36 ∧ σ35 86 36 ≤ 120 := hI36.1 86 36
      have hs40 : (-1) ≤ σ35 86 38 ∧ σ35 86 38 ≤ 120 := hI36.1 86 38
      have hs41 : 0 ≤ σ35 86 39 ∧ σ35 86 39 ≤ 6 := hI36.1 86 39
      rw [hF16.1 86 37 (by decide), (show σ13 86 36 = ((σ 86 36) + 1) from (congrFun (congrFun e14 86) 36).trans rfl), (show σ13 86 39 = ((σ 86 39) + 1) from (congrFun (congrFun e14 86) 39).trans ((congrFun (congrFun e10 86) 39).trans rfl))] at hp27
      rw [hF16.1 86 35 (by decide), hF16.1 86 37 (by decide), (show σ13 86 36 = ((σ 86 36) + 1) from (congrFun (congrFun e14 86) 36).trans rfl)] at hx28
      show qr_W (qe L xs vb) (d + 2) qx_e219 _ (83, _, [.int (qz v26)], qw σ35 α κ ρ, 0, 0)
      refine qr_istore_n _ 84 rfl (by decide) rfl rfl ?_
      refine qr_iload_n 85 rfl rfl rfl ?_
      refine qr_bipush 87 rfl (by decide) rfl ?_
      refine qr_icmp_ne 104 90 rfl rfl rfl hv2 (by decide) (fun h42 => ?_) (fun h => False.elim (by omega))
      refine qr_aload_n 105 rfl rfl rfl ?_
      refine qr_dup 106 rfl rfl rfl ?_
      refine qr_get 109 rfl rfl rfl (by decide) rfl ?_
      refine qr_iconst 110 rfl rfl ?_
      refine qr_isub 111 rfl rfl ?_
      refine qr_put 114 rfl (by decide) rfl (Nat.le_of_ble_eq_true rfl) (Nat.le_of_ble_eq_true rfl) (Or.inl rfl) (qr_fitI rfl _) rfl ?_
      refine qy_wS (qw_s σ35 86 39 ((σ35 86 39) - 1)) rfl (fun σ43 e44 => ?_)
      have hI45 : qI σ43 α κ ρ := by rw [e44]; exact qI_s hI36 86 39 rfl (show 0 ≤ ((σ35 86 39) - 1) ∧ ((σ35 86 39) - 1) ≤ 6 by omega)
      have hF46 : qFr [(86, 36), (86, 38), (86, 39)] [] σ α σ43 α := by rw [e44]; exact qFr_s hF38 86 39 _ (by decide)
      refine qr_iload_n 115 rfl rfl rfl ?_
      refine qr_bipush 117 rfl (by decide) rfl ?_
      refine qr_icmp_ne 124 120 rfl rfl rfl hv2 (by decide) (fun h47 => ?_) (fun h => False.elim (by omega))
      refine qr_iload_n 125 rfl rfl rfl ?_
      refine qr_bipush 127 rfl (by decide) rfl ?_
      refine qr_icmp_ne 135 130 rfl rfl rfl hv2 (by decide) (fun h48 => ?_) (fun h => False.elim (by omega))
      refine qr_iload_n 136 rfl rfl rfl ?_
      refine qr_if_ne 143 139 rfl rfl rfl hv26 (fun h49 => ?_) (fun h49 => ?_)
      · skip
        refine qr_iconst 144 rfl rfl ?_
        refine qr_retI rfl rfl (by decide) (by decide) ?_
        have hw50 : σ43 86 36 = (σ35 86 36) := (congrFun (congrFun e44 86) 36).trans rfl
        have hw51 : σ43 86 38 = (σ35 86 38) := (congrFun (congrFun e44 86) 38).trans rfl
        have hw52 : σ43 86 39 = ((σ35 86 39) - 1) := (congrFun (congrFun e44 86) 39).trans rfl
        exact ⟨_, rfl, hI45, hF46, 0, rfl, (by decide), by omega, (by rw [show σ43 86 36 = (σ35 86 36) from (congrFun (congrFun e44 86) 36).trans rfl, show σ43 86 38 = (σ35 86 38) from (congrFun (congrFun e44 86) 38).trans rfl]; exact qO_u (T := (qtT (α 106) (α 107) (σ 86 35))) (n := (σ 86 37)) (N := (α 109)) (r := ro) (a := (σ 86 36)) (c := 33) (by omega) (by omega) (by omega) hx28 (by omega) (fun _ => qap_not (by omega)))⟩
      · skip
        refine qr_iconst 140 rfl rfl ?_
        refine qr_goto 144 rfl rfl ?_
        as_aux_lemma =>
          refine qr_retI rfl rfl (by decide) (by decide) ?_
          have hw53 : σ43 86 36 = (σ35 86 36) := (congrFun (congrFun e44 86) 36).trans rfl
          have hw54 : σ43 86 38 = (σ35 86 38) := (congrFun (congrFun e44 86) 38).trans rfl
          have hw55 : σ43 86 39 = ((σ35 86 39) - 1) := (congrFun (congrFun e44 86) 39).trans rfl
          exact ⟨_, rfl, hI45, hF46, 1, rfl, (by decide), by omega, (by rw [show σ43 86 36 = (σ35 86 36) from (congrFun (congrFun e44 86) 36).trans rfl, show σ43 86 38 = (σ35 86 38) from (congrFun (congrFun e44 86) 38).trans rfl]; exact qO_u (T := (qtT (α 106) (α 107) (σ 86 35))) (n := (σ 86 37)) (N := (α 109)) (r := ro) (a := (σ 86 36)) (c := 33) (by omega) (by omega) (by omega) hx28 (by omega) (fun _ => qap_not (by omega)))⟩
    · skip
      refine qr_aload_n 42 rfl rfl rfl ?_
      refine qr_callN 45 rfl rfl rfl (sf_221_86x (d := d + 1) hI ) ?_
      have hs58 : 0 ≤ σ 86 36 ∧ σ 86 36 ≤ 120 := hI.1 86 36
      have hs59 : (-1) ≤ σ 86 38 ∧ σ 86 38 ≤ 120 := hI.1 86 38
      rintro _ _ ⟨σ60, rfl, hI61, hG62, v56, rfl, hv56, hp57⟩
      have hF63 : qFr [(86, 36), (86, 38), (86, 39)] [] σ α σ60 α := qFr_t hF0 hG62 (by decide) (by decide)
      have hs64 : (-1) ≤ σ60 86 38 ∧ σ60 86 38 ≤ 120 := hI61.1 86 38
      show qr_W (qe L xs vb) (d + 2) qx_e219 _ (45, _, [.int (qz v56)], qw σ60 α κ ρ, 0, 0)
      refine qr_retI rfl rfl (by decide) (by decide) ?_
      have hw65 : σ60 86 36 = (σ 86 36) := (hG62.1 86 36 (by decide)).trans rfl
      have hw66 : σ60 86 38 = (σ60 86 38) := rfl
      have hw67 : σ60 86 39 = (σ 86 39) := (hG62.1 86 39 (by decide)).trans rfl
      exact ⟨_, rfl, hI61, hF63, v56, rfl, (qrg hv56 (by decide) (by decide)), by omega, (by rw [show σ60 86 36 = (σ 86 36) from (hG62.1 86 36 (by decide)).trans rfl]; rw [show σ60 86 38 = σ 86 36 by omega]; exact qO_b (T := (qtT (α 106) (α 107) (σ 86 35))) (n := (σ 86 37)) (N := (α 109)) (r := ro) (a := (σ 86 36)) _ (by omega))⟩
  · skip
    refine qr_iload_n 21 rfl rfl rfl ?_
    refine qr_bipush 23 rfl (by decide) rfl ?_
    refine qr_icmp_eq 32 26 rfl rfl rfl hv2 (by decide) (fun h68 => ?_) (fun h68 => ?_)
    · skip
      refine qr_aload_n 33 rfl rfl rfl ?_
      refine qr_get 36 rfl rfl rfl (by decide) rfl ?_
      refine qr_bipush 38 rfl (by decide) rfl ?_
      refine qr_icmp_ne 46 41 rfl rfl rfl (qrg hz86_39 (by decide) (by decide)) (by decide) (fun h69 => ?_) (fun h69 => ?_)
      · skip
        refine qr_aload_n 47 rfl rfl rfl ?_
        refine qr_dup 48 rfl rfl rfl ?_
        refine qr_get 51 rfl rfl rfl (by decide) rfl ?_
        refine qr_iconst 52 rfl rfl ?_
        refine qr_iadd 53 rfl rfl ?_
        refine qr_put 56 rfl (by decide) rfl (Nat.le_of_ble_eq_true rfl) (Nat.le_of_ble_eq_true rfl) (Or.inl rfl) (qr_fitI rfl _) rfl ?_
        refine qy_wS (qw_s σ 86 39 ((σ 86 39) + 1)) rfl (fun σ70 e71 => ?_)
        have hI72 : qI σ70 α κ ρ := by rw [e71]; exact qI_s hI 86 39 rfl (show 0 ≤ ((σ 86 39) + 1) ∧ ((σ 86 39) + 1) ≤ 6 by omega)
        have hF73 : qFr [(86, 36), (86, 38), (86, 39)] [] σ α σ70 α := by rw [e71]; exact qFr_s hF0 86 39 _ (by decide)
        refine qr_aload_n 57 rfl rfl rfl ?_
        refine qr_dup 58 rfl rfl rfl ?_
        refine qr_get 61 rfl rfl rfl (by decide) rfl ?_
        refine qy_v (σ 86 36) ((congrFun (congrFun e71 86) 36).trans rfl) ?_
        refine qr_iconst 62 rfl rfl ?_
        refine qr_iadd 63 rfl rfl ?_
        refine qr_put 66 rfl (by decide) rfl (Nat.le_of_ble_eq_true rfl) (Nat.le_of_ble_eq_true rfl) (Or.inl rfl) (qr_fitI rfl _) rfl ?_
        refine qy_wS (qw_s σ70 86 36 ((σ 86 36) + 1)) rfl (fun σ74 e75 => ?_)
        have hI76 : qI σ74 α κ ρ := by rw [e75]; exact qI_s hI72 86 36 rfl (show 0 ≤ ((σ 86 36) + 1) ∧ ((σ 86 36) + 1) ≤ 120 by omega)
        have hF77 : qFr [(86, 36), (86, 38), (86, 39)] [] σ α σ74 α := by rw [e75]; exact qFr_s hF73 86 36 _ (by decide)
        refine qr_iload_n 67 rfl rfl rfl ?_
        refine qr_bipush 69 rfl (by decide) rfl ?_
        refine qr_icmp_ne 79 72 rfl rfl rfl hv2 (by decide) (fun h78 => ?_) (fun h => False.elim (by omega))
        refine qr_aload_n 80 rfl rfl rfl ?_
        have hs79 : 0 ≤ σ74 86 36 ∧ σ74 86 36 ≤ 120 := hI76.1 86 36
        have hs80 : σ74 86 36 = ((σ 86 36) + 1) := (congrFun (congrFun e75 86) 36).trans rfl
        have hs81 : 0 ≤ σ74 86 37 ∧ σ74 86 37 ≤ 120 := hI76.1 86 37
        have hs82 : σ74 86 37 = (σ 86 37) := (congrFun (congrFun e75 86) 37).trans ((congrFun (congrFun e71 86) 37).trans rfl)
        have hs83 : (-1) ≤ σ74 86 38 ∧ σ74 86 38 ≤ 120 := hI76.1 86 38
        have hs84 : σ74 86 38 = (σ 86 38) := (congrFun (congrFun e75 86) 38).trans ((congrFun (congrFun e71 86) 38).trans rfl)
        have hs85 : 0 ≤ σ74 86 39 ∧ σ74 86 39 ≤ 6 := hI76.1 86 39
        have hs86 : σ74 86 39 = ((σ 86 39) + 1) := (congrFun (congrFun e75 86) 39).trans ((congrFun (congrFun e71 86) 39).trans rfl)
        refine qr_callN 83 rfl rfl rfl (ihO hI76 (by omega) (by omega) (by omega) (by omega)) ?_
        have hs90 : 0 ≤ σ74 86 36 ∧ σ74 86 36 ≤ 120 := hI76.1 86 36
        have hs91 : σ74 86 36 = ((σ 86 36) + 1) := (congrFun (congrFun e75 86) 36).trans rfl
        have hs92 : 0 ≤ σ74 86 37 ∧ σ74 86 37 ≤ 120 := hI76.1 86 37
        have hs93 : σ74 86 37 = (σ 86 37) := (congrFun (congrFun e75 86) 37).trans ((congrFun (congrFun e71 86) 37).trans rfl)
        have hs94 : 0 ≤ σ74 86 39 ∧ σ74 86 39 ≤ 6 := hI76.1 86 39
        have hs95 : σ74 86 39 = ((σ 86 39) + 1) := (congrFun (congrFun e75 86) 39).trans ((congrFun (congrFun e71 86) 39).trans rfl)
        rintro _ _ ⟨σ96, rfl, hI97, hG98, v87, rfl, hv87, hp88, hx89⟩
        have hF99 : qFr [(86, 36), (86, 38), (86, 39)] [] σ α σ96 α := qFr_t hF77 hG98 (by decide) (by decide)
        have hs100 : 0 ≤ σ96 86 36 ∧ σ96 86 36 ≤ 120 := hI97.1 86 36
        have hs101 : (-1) ≤ σ96 86 38 ∧ σ96 86 38 ≤ 120 := hI97.1 86 38
        have hs102 : 0 ≤ σ96 86 39 ∧ σ96 86 39 ≤ 6 := hI97.1 86 39
        rw [hF77.1 86 37 (by decide), (show σ74 86 36 = ((σ 86 36) + 1) from (congrFun (congrFun e75 86) 36).trans rfl), (show σ74 86 39 = ((σ 86 39) + 1) from (congrFun (congrFun e75 86) 39).trans ((congrFun (congrFun e71 86) 39).trans rfl))] at hp88
        rw [hF77.1 86 35 (by decide), hF77.1 86 37 (by decide), (show σ74 86 36 = ((σ 86 36) + 1) from (congrFun (congrFun e75 86) 36).trans rfl)] at hx89
        show qr_W (qe L xs vb) (d + 2) qx_e219 _ (83, _, [.int (qz v87)], qw σ96 α κ ρ, 0, 0)
        refine qr_istore_n _ 84 rfl (by decide) rfl rfl ?_
        refine qr_iload_n 85 rfl rfl rfl ?_
        refine qr_bipush 87 rfl (by decide) rfl ?_
        refine qr_icmp_ne 104 90 rfl rfl rfl hv2 (by decide) (fun h103 => ?_) (fun h => False.elim (by omega))
        refine qr_aload_n 105 rfl rfl rfl ?_
        refine qr_dup 106 rfl rfl rfl ?_
        refine qr_get 109 rfl rfl rfl (by decide) rfl ?_
        refine qr_iconst 110 rfl rfl ?_
        refine qr_isub 111 rfl rfl ?_
        refine qr_put 114 rfl (by decide) rfl (Nat.le_of_ble_eq_true rfl) (Nat.le_of_ble_eq_true rfl) (Or.inl rfl) (qr_fitI rfl _) rfl ?_
        refine qy_wS (qw_s σ96 86 39 ((σ96 86 39) - 1)) rfl (fun σ104 e105 => ?_)
        have hI106 : qI σ104 α κ ρ := by rw [e105]; exact qI_s hI97 86 39 rfl (show 0 ≤ ((σ96 86 39) - 1) ∧ ((σ96 86 39) - 1) ≤ 6 by omega)
        have hF107 : qFr [(86, 36), (86, 38), (86, 39)] [] σ α σ104 α := by rw [e105]; exact qFr_s hF99 86 39 _ (by decide)
        refine qr_iload_n 115 rfl rfl rfl ?_
        refine qr_bipush 117 rfl (by decide) rfl ?_
        refine qr_icmp_ne 124 120 rfl rfl rfl hv2 (by decide) (fun h108 => ?_) (fun h => False.elim (by omega))
        refine qr_iload_n 125 rfl rfl rfl ?_
        refine qr_bipush 127 rfl (by decide) rfl ?_
        refine qr_icmp_ne 135 130 rfl rfl rfl hv2 (by decide) (fun h => False.elim (by omega)) (fun h109 => ?_)
        refine qr_iload_n 131 rfl rfl rfl ?_
        as_aux_lemma =>
          refine qr_ineg 132 rfl rfl ?_
          refine qy_canE (fun v110 hv110 hev110 => ?_)
          refine qr_goto 144 rfl rfl ?_
          refine qr_retI rfl rfl (by decide) (by decide) ?_
          have hw111 : σ104 86 36 = (σ96 86 36) := (congrFun (congrFun e105 86) 36).trans rfl
          have hw112 : σ104 86 38 = (σ96 86 38) := (congrFun (congrFun e105 86) 38).trans rfl
          have hw113 : σ104 86 39 = ((σ96 86 39) - 1) := (congrFun (congrFun e105 86) 39).trans rfl
          exact ⟨_, rfl, hI106, hF107, v110, rfl, hv110, by omega, (by rw [show σ104 86 36 = (σ96 86 36) from (congrFun (congrFun e105 86) 36).trans rfl, show σ104 86 38 = (σ96 86 38) from (congrFun (congrFun e105 86) 38).trans rfl]; exact qO_u (T := (qtT (α 106) (α 107) (σ 86 35))) (n := (σ 86 37)) (N := (α 109)) (r := ro) (a := (σ 86 36)) (c := 45) (by omega) (by omega) (by omega) hx89 (by omega) (fun _ => qap_neg hev110 (by omega)))⟩
      · skip
        refine qr_aload_n 42 rfl rfl rfl ?_
        refine qr_callN 45 rfl rfl rfl (sf_221_86x (d := d + 1) hI ) ?_
        have hs116 : 0 ≤ σ 86 36 ∧ σ 86 36 ≤ 120 := hI.1 86 36
        have hs117 : (-1) ≤ σ 86 38 ∧ σ 86 38 ≤ 120 := hI.1 86 38
        rintro _ _ ⟨σ118, rfl, hI119, hG120, v114, rfl, hv114, hp115⟩
        have hF121 : qFr [(86, 36), (86, 38), (86, 39)] [] σ α σ118 α := qFr_t hF0 hG120 (by decide) (by decide)
        have hs122 : (-1) ≤ σ118 86 38 ∧ σ118 86 38 ≤ 120 := hI119.1 86 38
        show qr_W (qe L xs vb) (d + 2) qx_e219 _ (45, _, [.int (qz v114)], qw σ118 α κ ρ, 0, 0)
        refine qr_retI rfl rfl (by decide) (by decide) ?_
        have hw123 : σ118 86 36 = (σ 86 36) := (hG120.1 86 36 (by decide)).trans rfl
        have hw124 : σ118 86 38 = (σ118 86 38) := rfl
        have hw125 : σ118 86 39 = (σ 86 39) := (hG120.1 86 39 (by decide)).trans rfl
        exact ⟨_, rfl, hI119, hF121, v114, rfl, (qrg hv114 (by decide) (by decide)), by omega, (by rw [show σ118 86 36 = (σ 86 36) from (hG120.1 86 36 (by decide)).trans rfl]; rw [show σ118 86 38 = σ 86 36 by omega]; exact qO_b (T := (qtT (α 106) (α 107) (σ 86 35))) (n := (σ 86 37)) (N := (α 109)) (r := ro) (a := (σ 86 36)) _ (by omega))⟩
    · skip
      refine qr_iload_n 27 rfl rfl rfl ?_
      refine qr_bipush 29 rfl (by decide) rfl ?_
      refine qr_icmp_ne 145 32 rfl rfl rfl hv2 (by decide) (fun h126 => ?_) (fun h126 => ?_)
      · skip
        refine qr_iload_n 146 rfl rfl rfl ?_
        refine qr_callN 149 rfl rfl rfl (sf_223x (d := d + 1) hI hv2) ?_
        rintro _ _ ⟨rfl, v127, rfl, hv127, hp128⟩
        show qr_W (qe L xs vb) (d + 2) qx_e219 _ (149, _, [.int (qz v127)], qw σ α κ ρ, 0, 0)
        refine qr_istore_n _ 150 rfl (by decide) rfl rfl ?_
        refine qr_iload_n 151 rfl rfl rfl ?_
        refine qr_if_lt 171 154 rfl rfl rfl (qrg hv127 (by decide) (by decide)) (fun h129 => ?_) (fun h129 => ?_)
        · skip
          refine qr_iconst 172 rfl rfl ?_
          refine qr_istore_n _ 173 rfl (by decide) rfl rfl ?_
          refine qr_iconst 174 rfl rfl ?_
          refine qr_istore _ 176 rfl (by decide) rfl rfl ?_
          have hL518 : ∀ (n : Nat) (ls : qm_L) (u503 u505 : Int) (σ506 : Nat → Nat → Int), 4 - u505 < (n : Int) → qm_get ls 0 = some (.ref 86) → qm_get ls 3 = some (.int (qz u503)) → qm_get ls 4 = some (.int (qz u505)) → (0 ≤ u503 ∧ u503 ≤ 9999) → (0 ≤ u505 ∧ u505 ≤ 4) → qI σ506 α κ ρ → qFr [(86, 36), (86, 38), (86, 39)] [] σ α σ506 α → σ506 86 35 = (σ 86 35) → σ506 86 37 = (σ 86 37) → σ506 86 38 = (σ 86 38) → σ506 86 39 = (σ 86 39) → qtx_num (qtT (α 106) (α 107) (σ 86 35)) (σ 86 37) 4 0 (σ 86 36) = qtx_num (qtT (α 106) (α 107) (σ 86 35)) (σ 86 37) (4 - u505 : Int).toNat u503 (σ506 86 36) → (((u505 = 0 ∧ σ506 86 36 = σ 86 36) ∨ (1 ≤ u505 ∧ 48 ≤ (qtx_c (qtT (α 106) (α 107) (σ 86 35)) (σ 86 37) (σ 86 36)) ∧ (qtx_c (qtT (α 106) (α 107) (σ 86 35)) (σ 86 37) (σ 86 36)) ≤ 57)) ∧ σ 86 36 + u505 = σ506 86 36 ∧ σ506 86 36 ≤ σ 86 37 ∧ ((u505 = 0 ∧ u503 = 0) ∨ (u505 = 1 ∧ u503 ≤ 9) ∨ (u505 = 2 ∧ u503 ≤ 99) ∨ (u505 = 3 ∧ u503 ≤ 999) ∨ (u505 = 4 ∧ u503 ≤ 9999))) → qr_W (qe L xs vb) (d + 2) qx_e219 (fun r w' => ∃ σ', w' = qw σ' α κ ρ ∧ qI σ' α κ ρ ∧ qFr [(86, 36), (86, 38), (86, 39)] [] σ α σ' α ∧ ∃ v : Int, r = some (.int (qz v)) ∧ ((-2147483648) ≤ v ∧ v ≤ 2147483647) ∧ (σ 86 36 ≤ σ' 86 36 ∧ σ' 86 36 ≤ σ 86 37 ∧ σ 86 39 ≤ σ' 86 39 ∧ ((σ' 86 38 = -1 ∧ σ' 86 39 = σ 86 39 ∧ σ 86 36 < σ' 86 36) ∨ σ' 86 38 = σ' 86 36)) ∧ qRes ((fun b => qtx_on (qtT (α 106) (α 107) (σ 86 35)) (σ 86 37) (α 109) ro b) (σ 86 36)) v (σ' 86 36) (σ' 86 38)) (176, ls, [], qw σ506 α κ ρ, 0, 0) := by
            intro n
            induction n with
            | zero => intro ls u503 u505 σ506 hm g501 g502 g504 hf514 hf515 hI508 hF509 hk510 hk511 hk512 hk513 hx516 hx517; exact False.elim (by omega)
            | succ n ih519 =>
              intro ls u503 u505 σ506 hm g501 g502 g504 hf514 hf515 hI508 hF509 hk510 hk511 hk512 hk513 hx516 hx517
              have hs520 : 0 ≤ σ506 86 36 ∧ σ506 86 36 ≤ 120 := hI508.1 86 36
              refine qr_iload 178 rfl g504 rfl ?_
              refine qr_iconst 179 rfl rfl ?_
              refine qr_icmp_ge 229 182 rfl rfl rfl (qrg hf515 (by decide) (by decide)) (by decide) (fun h521 => ?_) (fun h521 => ?_)
              · skip
                refine qr_iload 231 rfl g504 rfl ?_
                refine qr_if_ne 241 234 rfl rfl rfl (qrg hf515 (by decide) (by decide)) (fun h522 => ?_) (fun h => False.elim (by omega))
                refine qr_iload_n 242 rfl g502 rfl ?_
                refine qr_retI rfl rfl (by decide) (by decide) ?_
                have hw523 : σ506 86 36 = (σ506 86 36) := rfl
                have hw524 : σ506 86 38 = (σ 86 38) := (hk512).trans rfl
                have hw525 : σ506 86 39 = (σ 86 39) := (hk513).trans rfl
                exact ⟨_, rfl, hI508, hF509, u503, rfl, (qrg hf514 (by decide) (by decide)), by omega, (by rw [show σ506 86 38 = (σ 86 38) from (hk512).trans rfl]; rw [p1]; exact qO_d (T := (qtT (α 106) (α 107) (σ 86 35))) (n := (σ 86 37)) (N := (α 109)) (r := ro) (a := (σ 86 36)) (by omega) (hx516.trans (qtx_num_e (by omega))))⟩
              · skip
                refine qr_aload_n 183 rfl g501 rfl ?_
                refine qr_callN 186 rfl rfl rfl (sf_220_86x (d := d + 1) hI508 ) ?_
                have hs528 : (-1) ≤ σ506 86 35 ∧ σ506 86 35 ≤ 120 := hI508.1 86 35
                have hs529 : σ506 86 35 = (σ 86 35) := (hk510).trans rfl
                have hs530 : 0 ≤ σ506 86 36 ∧ σ506 86 36 ≤ 120 := hI508.1 86 36
                have hs531 : 0 ≤ σ506 86 37 ∧ σ506 86 37 ≤ 120 := hI508.1 86 37
                have hs532 : σ506 86 37 = (σ 86 37) := (hk511).trans rfl
                rintro _ _ ⟨rfl, v526, rfl, hv526, hp527⟩
                rw [hF509.1 86 35 (by decide), hF509.1 86 37 (by decide)] at hp527
                show qr_W (qe L xs vb) (d + 2) qx_e219 _ (186, _, [.int (qz v526)], qw σ506 α κ ρ, 0, 0)
                refine qr_bipush 188 rfl (by decide) rfl ?_
                refine qr_icmp_lt 229 191 rfl rfl rfl hv526 (by decide) (fun h533 => ?_) (fun h533 => ?_)
                · skip
                  refine qr_iload 231 rfl g504 rfl ?_
                  refine qr_if_ne 241 234 rfl rfl rfl (qrg hf515 (by decide) (by decide)) (fun h534 => ?_) (fun h534 => ?_)
                  · skip
                    refine qr_iload_n 242 rfl g502 rfl ?_
                    refine qr_retI rfl rfl (by decide) (by decide) ?_
                    have hw535 : σ506 86 36 = (σ506 86 36) := rfl
                    have hw536 : σ506 86 38 = (σ 86 38) := (hk512).trans rfl
                    have hw537 : σ506 86 39 = (σ 86 39) := (hk513).trans rfl
                    exact ⟨_, rfl, hI508, hF509, u503, rfl, (qrg hf514 (by decide) (by decide)), by omega, (by rw [show σ506 86 38 = (σ 86 38) from (hk512).trans rfl]; rw [p1]; exact qO_d (T := (qtT (α 106) (α 107) (σ 86 35))) (n := (σ 86 37)) (N := (α 109)) (r := ro) (a := (σ 86 36)) (by omega) (hx516.trans (qtx_num_e (by omega))))⟩
                  · skip
                    refine qr_aload_n 235 rfl g501 rfl ?_
                    refine qr_callN 238 rfl rfl rfl (sf_221_86x (d := d + 1) hI508 ) ?_
                    have hs540 : 0 ≤ σ506 86 36 ∧ σ506 86 36 ≤ 120 := hI508.1 86 36
                    have hs541 : (-1) ≤ σ506 86 38 ∧ σ506 86 38 ≤ 120 := hI508.1 86 38
                    have hs542 : σ506 86 38 = (σ 86 38) := (hk512).trans rfl
                    rintro _ _ ⟨σ543, rfl, hI544, hG545, v538, rfl, hv538, hp539⟩
                    have hF546 : qFr [(86, 36), (86, 38), (86, 39)] [] σ α σ543 α := qFr_t hF509 hG545 (by decide) (by decide)
                    have hs547 : (-1) ≤ σ543 86 38 ∧ σ543 86 38 ≤ 120 := hI544.1 86 38
                    rw [(show σ506 86 38 = (σ 86 38) from (hk512).trans rfl)] at hp539
                    show qr_W (qe L xs vb) (d + 2) qx_e219 _ (238, _, [.int (qz v538)], qw σ543 α κ ρ, 0, 0)
                    refine qr_goto 242 rfl rfl ?_
                    refine qr_retI rfl rfl (by decide) (by decide) ?_
                    have hw548 : σ543 86 36 = (σ506 86 36) := (hG545.1 86 36 (by decide)).trans rfl
                    have hw549 : σ543 86 38 = (σ543 86 38) := rfl
                    have hw550 : σ543 86 39 = (σ 86 39) := (hG545.1 86 39 (by decide)).trans ((hk513).trans rfl)
                    exact ⟨_, rfl, hI544, hF546, v538, rfl, (qrg hv538 (by decide) (by decide)), by omega, (by have hng := qnm_neg (c0 := (qtx_c (qtT (α 106) (α 107) (σ 86 35)) (σ 86 37) (σ 86 36))) hp128 (by omega) (by omega); have hz : (qtx_c (qtT (α 106) (α 107) (σ 86 35)) (σ 86 37) (σ506 86 36)) = (qtx_c (qtT (α 106) (α 107) (σ 86 35)) (σ 86 37) (σ 86 36)) := (by rw [show σ506 86 36 = σ 86 36 by omega]); rw [show σ543 86 36 = σ 86 36 by omega]; rw [show σ543 86 38 = σ 86 36 by omega]; exact qO_b (T := (qtT (α 106) (α 107) (σ 86 35))) (n := (σ 86 37)) (N := (α 109)) (r := ro) (a := (σ 86 36)) _ (by omega))⟩
                · skip
                  refine qr_aload_n 192 rfl g501 rfl ?_
                  refine qr_callN 195 rfl rfl rfl (sf_220_86x (d := d + 1) hI508 ) ?_
                  have hs553 : (-1) ≤ σ506 86 35 ∧ σ506 86 35 ≤ 120 := hI508.1 86 35
                  have hs554 : σ506 86 35 = (σ 86 35) := (hk510).trans rfl
                  have hs555 : 0 ≤ σ506 86 36 ∧ σ506 86 36 ≤ 120 := hI508.1 86 36
                  have hs556 : 0 ≤ σ506 86 37 ∧ σ506 86 37 ≤ 120 := hI508.1 86 37
                  have hs557 : σ506 86 37 = (σ 86 37) := (hk511).trans rfl
                  rintro _ _ ⟨rfl, v551, rfl, hv551, hp552⟩
                  rw [hF509.1 86 35 (by decide), hF509.1 86 37 (by decide)] at hp552
                  show qr_W (qe L xs vb) (d + 2) qx_e219 _ (195, _, [.int (qz v551)], qw σ506 α κ ρ, 0, 0)
                  refine qr_bipush 197 rfl (by decide) rfl ?_
                  refine qr_icmp_gt 229 200 rfl rfl rfl hv551 (by decide) (fun h558 => ?_) (fun h558 => ?_)
                  · skip
                    refine qr_iload 231 rfl g504 rfl ?_
                    refine qr_if_ne 241 234 rfl rfl rfl (qrg hf515 (by decide) (by decide)) (fun h559 => ?_) (fun h559 => ?_)
                    · skip
                      refine qr_iload_n 242 rfl g502 rfl ?_
                      refine qr_retI rfl rfl (by decide) (by decide) ?_
                      have hw560 : σ506 86 36 = (σ506 86 36) := rfl
                      have hw561 : σ506 86 38 = (σ 86 38) := (hk512).trans rfl
                      have hw562 : σ506 86 39 = (σ 86 39) := (hk513).trans rfl
                      exact ⟨_, rfl, hI508, hF509, u503, rfl, (qrg hf514 (by decide) (by decide)), by omega, (by rw [show σ506 86 38 = (σ 86 38) from (hk512).trans rfl]; rw [p1]; exact qO_d (T := (qtT (α 106) (α 107) (σ 86 35))) (n := (σ 86 37)) (N := (α 109)) (r := ro) (a := (σ 86 36)) (by omega) (hx516.trans (qtx_num_e (by omega))))⟩
                    · skip
                      refine qr_aload_n 235 rfl g501 rfl ?_
                      refine qr_callN 238 rfl rfl rfl (sf_221_86x (d := d + 1) hI508 ) ?_
                      have hs565 : 0 ≤ σ506 86 36 ∧ σ506 86 36 ≤ 120 := hI508.1 86 36
                      have hs566 : (-1) ≤ σ506 86 38 ∧ σ506 86 38 ≤ 120 := hI508.1 86 38
                      have hs567 : σ506 86 38 = (σ 86 38) := (hk512).trans rfl
                      rintro _ _ ⟨σ568, rfl, hI569, hG570, v563, rfl, hv563, hp564⟩
                      have hF571 : qFr [(86, 36), (86, 38), (86, 39)] [] σ α σ568 α := qFr_t hF509 hG570 (by decide) (by decide)
                      have hs572 : (-1) ≤ σ568 86 38 ∧ σ568 86 38 ≤ 120 := hI569.1 86 38
                      rw [(show σ506 86 38 = (σ 86 38) from (hk512).trans rfl)] at hp564
                      show qr_W (qe L xs vb) (d + 2) qx_e219 _ (238, _, [.int (qz v563)], qw σ568 α κ ρ, 0, 0)
                      refine qr_goto 242 rfl rfl ?_
                      refine qr_retI rfl rfl (by decide) (by decide) ?_
                      have hw573 : σ568 86 36 = (σ506 86 36) := (hG570.1 86 36 (by decide)).trans rfl
                      have hw574 : σ568 86 38 = (σ568 86 38) := rfl
                      have hw575 : σ568 86 39 = (σ 86 39) := (hG570.1 86 39 (by decide)).trans ((hk513).trans rfl)
                      exact ⟨_, rfl, hI569, hF571, v563, rfl, (qrg hv563 (by decide) (by decide)), by omega, (by have hng := qnm_neg (c0 := (qtx_c (qtT (α 106) (α 107) (σ 86 35)) (σ 86 37) (σ 86 36))) hp128 (by omega) (by omega); have hz : (qtx_c (qtT (α 106) (α 107) (σ 86 35)) (σ 86 37) (σ506 86 36)) = (qtx_c (qtT (α 106) (α 107) (σ 86 35)) (σ 86 37) (σ 86 36)) := (by rw [show σ506 86 36 = σ 86 36 by omega]); rw [show σ568 86 36 = σ 86 36 by omega]; rw [show σ568 86 38 = σ 86 36 by omega]; exact qO_b (T := (qtT (α 106) (α 107) (σ 86 35))) (n := (σ 86 37)) (N := (α 109)) (r := ro) (a := (σ 86 36)) _ (by omega))⟩
                  · skip
                    refine qr_bipush 202 rfl (by decide) rfl ?_
                    refine qr_iload_n 203 rfl g502 rfl ?_
                    refine qr_imul 204 rfl rfl ?_
                    refine qr_aload_n 205 rfl g501 rfl ?_
                    refine qr_callN 208 rfl rfl rfl (sf_220_86x (d := d + 1) hI508 ) ?_
                    have hs578 : (-1) ≤ σ506 86 35 ∧ σ506 86 35 ≤ 120 := hI508.1 86 35
                    have hs579 : σ506 86 35 = (σ 86 35) := (hk510).trans rfl
                    have hs580 : 0 ≤ σ506 86 36 ∧ σ506 86 36 ≤ 120 := hI508.1 86 36
                    have hs581 : 0 ≤ σ506 86 37 ∧ σ506 86 37 ≤ 120 := hI508.1 86 37
                    have hs582 : σ506 86 37 = (σ 86 37) := (hk511).trans rfl
                    rintro _ _ ⟨rfl, v576, rfl, hv576, hp577⟩
                    rw [hF509.1 86 35 (by decide), hF509.1 86 37 (by decide)] at hp577
                    show qr_W (qe L xs vb) (d + 2) qx_e219 _ (208, _, [.int (qz v576), .int (qz (10 * u503))], qw σ506 α κ ρ, 0, 0)
                    refine qr_iadd 209 rfl rfl ?_
                    refine qr_bipush 211 rfl (by decide) rfl ?_
                    refine qr_isub 212 rfl rfl ?_
                    refine qr_istore_n _ 213 rfl (by decide) rfl rfl ?_
                    refine qr_iinc _ 216 rfl (qm_gk g504 (by decide) (Or.inl (by decide))) (by decide) rfl rfl ?_
                    refine qr_aload_n 217 rfl (qm_gk (qm_gk g501 (by decide) (Or.inl (by decide))) (by decide) (Or.inl (by decide))) rfl ?_
                    refine qr_dup 218 rfl rfl rfl ?_
                    refine qr_get 221 rfl rfl rfl (by decide) rfl ?_
                    refine qr_iconst 222 rfl rfl ?_
                    refine qr_iadd 223 rfl rfl ?_
                    refine qr_put 226 rfl (by decide) rfl (Nat.le_of_ble_eq_true rfl) (Nat.le_of_ble_eq_true rfl) (Or.inl rfl) (qr_fitI rfl _) rfl ?_
                    refine qy_wS (qw_s σ506 86 36 ((σ506 86 36) + 1)) rfl (fun σ583 e584 => ?_)
                    have hI585 : qI σ583 α κ ρ := by rw [e584]; exact qI_s hI508 86 36 rfl (show 0 ≤ ((σ506 86 36) + 1) ∧ ((σ506 86 36) + 1) ≤ 120 by omega)
                    have hF586 : qFr [(86, 36), (86, 38), (86, 39)] [] σ α σ583 α := by rw [e584]; exact qFr_s hF509 86 36 _ (by decide)
                    refine qr_goto 176 rfl rfl ?_
                    exact ih519 _ (((10 * u503) + v576) - 48) (u505 + 1) σ583 (by omega) (qm_gk (qm_gk g501 (by decide) (Or.inl (by decide))) (by decide) (Or.inl (by decide))) (qm_gk (qm_ge _ _ _) (by decide) (Or.inr rfl)) (qm_ge _ _ _) (by omega) (by omega) hI585 hF586 ((congrFun (congrFun e584 86) 35).trans ((hk510).trans rfl)) ((congrFun (congrFun e584 86) 37).trans ((hk511).trans rfl)) ((congrFun (congrFun e584 86) 38).trans ((hk512).trans rfl)) ((congrFun (congrFun e584 86) 39).trans ((hk513).trans rfl)) (by rw [show σ583 86 36 = ((σ506 86 36) + 1) from (congrFun (congrFun e584 86) 36).trans rfl]; exact hx516.trans (qtx_num_g (by omega) (by omega) (by omega) (by omega))) (by have hz : u505 = 0 → (qtx_c (qtT (α 106) (α 107) (σ 86 35)) (σ 86 37) (σ506 86 36)) = (qtx_c (qtT (α 106) (α 107) (σ 86 35)) (σ 86 37) (σ 86 36)) := fun e => (by rw [show σ506 86 36 = σ 86 36 by omega]); have hw0 : σ583 86 36 = ((σ506 86 36) + 1) := (congrFun (congrFun e584 86) 36).trans rfl; have hw1 : σ583 86 38 = (σ 86 38) := (congrFun (congrFun e584 86) 38).trans ((hk512).trans rfl); have hw2 : σ583 86 39 = (σ 86 39) := (congrFun (congrFun e584 86) 39).trans ((hk513).trans rfl); omega)
          exact hL518 ((4 - 0 + 1 : Int)).toNat _ 0 0 σ (by omega) rfl rfl rfl (by decide) (by decide) hI hF0 (rfl) (rfl) (rfl) (rfl) (by rfl) (by omega)
        · skip
          have hnn587 := qnm_pos hp128 (by omega)
          refine qr_aload_n 155 rfl rfl rfl ?_
          refine qr_dup 156 rfl rfl rfl ?_
          refine qr_get 159 rfl rfl rfl (by decide) rfl ?_
          refine qr_iconst 160 rfl rfl ?_
          refine qr_iadd 161 rfl rfl ?_
          refine qr_put 164 rfl (by decide) rfl (Nat.le_of_ble_eq_true rfl) (Nat.le_of_ble_eq_true rfl) (Or.inl rfl) (qr_fitI rfl _) rfl ?_
          refine qy_wS (qw_s σ 86 36 ((σ 86 36) + 1)) rfl (fun σ588 e589 => ?_)
          have hI590 : qI σ588 α κ ρ := by rw [e589]; exact qI_s hI 86 36 rfl (show 0 ≤ ((σ 86 36) + 1) ∧ ((σ 86 36) + 1) ≤ 120 by omega)
          have hF591 : qFr [(86, 36), (86, 38), (86, 39)] [] σ α σ588 α := by rw [e589]; exact qFr_s hF0 86 36 _ (by decide)
          refine qr_aload_n 165 rfl rfl rfl ?_
          refine qr_get 168 rfl rfl rfl (by decide) rfl ?_
          refine qr_iload_n 169 rfl rfl rfl ?_
          refine qr_iaload 170 rfl rfl (by omega) (by decide) rfl ?_
          refine qr_topI (fun v592 hv592 => ?_)
          have hs593 : (-2147483648) ≤ v592 ∧ v592 ≤ 2147483647 := by rw [hv592]; exact hI590.2.1 109 _ (show _ < 9 from qrgt hv127 (by decide) (by decide))
          refine qr_retI rfl rfl (by decide) (by decide) ?_
          have hw594 : σ588 86 36 = ((σ 86 36) + 1) := (congrFun (congrFun e589 86) 36).trans rfl
          have hw595 : σ588 86 38 = (σ 86 38) := (congrFun (congrFun e589 86) 38).trans rfl
          have hw596 : σ588 86 39 = (σ 86 39) := (congrFun (congrFun e589 86) 39).trans rfl
          exact ⟨_, rfl, hI590, hF591, v592, rfl, hs593, by omega, (by rw [show σ588 86 36 = ((σ 86 36) + 1) from (congrFun (congrFun e589 86) 36).trans rfl, show σ588 86 38 = (σ 86 38) from (congrFun (congrFun e589 86) 38).trans rfl]; rw [p1]; exact qO_n (T := (qtT (α 106) (α 107) (σ 86 35))) (n := (σ 86 37)) (N := (α 109)) (r := ro) (a := (σ 86 36)) (m := v127) (by rw [show (qtx_c (qtT (α 106) (α 107) (σ 86 35)) (σ 86 37) (σ 86 36)) = v2 by omega]; exact hp128.symm) (by omega) hv592)⟩
      · skip
        refine qr_aload_n 33 rfl rfl rfl ?_
        refine qr_get 36 rfl rfl rfl (by decide) rfl ?_
        refine qr_bipush 38 rfl (by decide) rfl ?_
        refine qr_icmp_ne 46 41 rfl rfl rfl (qrg hz86_39 (by decide) (by decide)) (by decide) (fun h597 => ?_) (fun h597 => ?_)
        · skip
          refine qr_aload_n 47 rfl rfl rfl ?_
          refine qr_dup 48 rfl rfl rfl ?_
          refine qr_get 51 rfl rfl rfl (by decide) rfl ?_
          refine qr_iconst 52 rfl rfl ?_
          refine qr_iadd 53 rfl rfl ?_
          refine qr_put 56 rfl (by decide) rfl (Nat.le_of_ble_eq_true rfl) (Nat.le_of_ble_eq_true rfl) (Or.inl rfl) (qr_fitI rfl _) rfl ?_
          refine qy_wS (qw_s σ 86 39 ((σ 86 39) + 1)) rfl (fun σ598 e599 => ?_)
          have hI600 : qI σ598 α κ ρ := by rw [e599]; exact qI_s hI 86 39 rfl (show 0 ≤ ((σ 86 39) + 1) ∧ ((σ 86 39) + 1) ≤ 6 by omega)
          have hF601 : qFr [(86, 36), (86, 38), (86, 39)] [] σ α σ598 α := by rw [e599]; exact qFr_s hF0 86 39 _ (by decide)
          refine qr_aload_n 57 rfl rfl rfl ?_
          refine qr_dup 58 rfl rfl rfl ?_
          refine qr_get 61 rfl rfl rfl (by decide) rfl ?_
          refine qy_v (σ 86 36) ((congrFun (congrFun e599 86) 36).trans rfl) ?_
          refine qr_iconst 62 rfl rfl ?_
          refine qr_iadd 63 rfl rfl ?_
          refine qr_put 66 rfl (by decide) rfl (Nat.le_of_ble_eq_true rfl) (Nat.le_of_ble_eq_true rfl) (Or.inl rfl) (qr_fitI rfl _) rfl ?_
          refine qy_wS (qw_s σ598 86 36 ((σ 86 36) + 1)) rfl (fun σ602 e603 => ?_)
          have hI604 : qI σ602 α κ ρ := by rw [e603]; exact qI_s hI600 86 36 rfl (show 0 ≤ ((σ 86 36) + 1) ∧ ((σ 86 36) + 1) ≤ 120 by omega)
          have hF605 : qFr [(86, 36), (86, 38), (86, 39)] [] σ α σ602 α := by rw [e603]; exact qFr_s hF601 86 36 _ (by decide)
          refine qr_iload_n 67 rfl rfl rfl ?_
          refine qr_bipush 69 rfl (by decide) rfl ?_
          refine qr_icmp_ne 79 72 rfl rfl rfl hv2 (by decide) (fun h => False.elim (by omega)) (fun h606 => ?_)
          refine qr_aload_n 73 rfl rfl rfl ?_
          have hs607 : 0 ≤ σ602 86 36 ∧ σ602 86 36 ≤ 120 := hI604.1 86 36
          have hs608 : σ602 86 36 = ((σ 86 36) + 1) := (congrFun (congrFun e603 86) 36).trans rfl
          have hs609 : 0 ≤ σ602 86 37 ∧ σ602 86 37 ≤ 120 := hI604.1 86 37
          have hs610 : σ602 86 37 = (σ 86 37) := (congrFun (congrFun e603 86) 37).trans ((congrFun (congrFun e599 86) 37).trans rfl)
          have hs611 : (-1) ≤ σ602 86 38 ∧ σ602 86 38 ≤ 120 := hI604.1 86 38
          have hs612 : σ602 86 38 = (σ 86 38) := (congrFun (congrFun e603 86) 38).trans ((congrFun (congrFun e599 86) 38).trans rfl)
          have hs613 : 0 ≤ σ602 86 39 ∧ σ602 86 39 ≤ 6 := hI604.1 86 39
          have hs614 : σ602 86 39 = ((σ 86 39) + 1) := (congrFun (congrFun e603 86) 39).trans ((congrFun (congrFun e599 86) 39).trans rfl)
          refine qr_callN 76 rfl rfl rfl (ihE hI604 (by omega) (by omega) (by omega) (by omega)) ?_
          have hs618 : 0 ≤ σ602 86 36 ∧ σ602 86 36 ≤ 120 := hI604.1 86 36
          have hs619 : σ602 86 36 = ((σ 86 36) + 1) := (congrFun (congrFun e603 86) 36).trans rfl
          have hs620 : 0 ≤ σ602 86 37 ∧ σ602 86 37 ≤ 120 := hI604.1 86 37
          have hs621 : σ602 86 37 = (σ 86 37) := (congrFun (congrFun e603 86) 37).trans ((congrFun (congrFun e599 86) 37).trans rfl)
          have hs622 : 0 ≤ σ602 86 39 ∧ σ602 86 39 ≤ 6 := hI604.1 86 39
          have hs623 : σ602 86 39 = ((σ 86 39) + 1) := (congrFun (congrFun e603 86) 39).trans ((congrFun (congrFun e599 86) 39).trans rfl)
          rintro _ _ ⟨σ624, rfl, hI625, hG626, v615, rfl, hv615, hp616, hx617⟩
          have hF627 : qFr [(86, 36), (86, 38), (86, 39)] [] σ α σ624 α := qFr_t hF605 hG626 (by decide) (by decide)
          have hs628 : 0 ≤ σ624 86 36 ∧ σ624 86 36 ≤ 120 := hI625.1 86 36
          have hs629 : (-1) ≤ σ624 86 38 ∧ σ624 86 38 ≤ 120 := hI625.1 86 38
          have hs630 : 0 ≤ σ624 86 39 ∧ σ624 86 39 ≤ 6 := hI625.1 86 39
          rw [hF605.1 86 37 (by decide), (show σ602 86 36 = ((σ 86 36) + 1) from (congrFun (congrFun e603 86) 36).trans rfl), (show σ602 86 39 = ((σ 86 39) + 1) from (congrFun (congrFun e603 86) 39).trans ((congrFun (congrFun e599 86) 39).trans rfl))] at hp616
          rw [hF605.1 86 35 (by decide), hF605.1 86 37 (by decide), (show σ602 86 36 = ((σ 86 36) + 1) from (congrFun (congrFun e603 86) 36).trans rfl)] at hx617
          show qr_W (qe L xs vb) (d + 2) qx_e219 _ (76, _, [.int (qz v615)], qw σ624 α κ ρ, 0, 0)
          refine qr_goto 83 rfl rfl ?_
          refine qr_istore_n _ 84 rfl (by decide) rfl rfl ?_
          refine qr_iload_n 85 rfl rfl rfl ?_
          refine qr_bipush 87 rfl (by decide) rfl ?_
          refine qr_icmp_ne 104 90 rfl rfl rfl hv2 (by decide) (fun h => False.elim (by omega)) (fun h631 => ?_)
          refine qr_aload_n 91 rfl rfl rfl ?_
          refine qr_bipush 93 rfl (by decide) rfl ?_
          refine qr_callN 96 rfl rfl rfl (sf_222_86x (d := d + 0) hI625 (by decide) (by omega)) ?_
          have hs634 : (-1) ≤ σ624 86 35 ∧ σ624 86 35 ≤ 120 := hI625.1 86 35
          have hs635 : σ624 86 35 = (σ 86 35) := (hG626.1 86 35 (by decide)).trans ((congrFun (congrFun e603 86) 35).trans ((congrFun (congrFun e599 86) 35).trans rfl))
          have hs636 : 0 ≤ σ624 86 36 ∧ σ624 86 36 ≤ 120 := hI625.1 86 36
          have hs637 : 0 ≤ σ624 86 37 ∧ σ624 86 37 ≤ 120 := hI625.1 86 37
          have hs638 : σ624 86 37 = (σ 86 37) := (hG626.1 86 37 (by decide)).trans ((congrFun (congrFun e603 86) 37).trans ((congrFun (congrFun e599 86) 37).trans rfl))
          have hs639 : (-1) ≤ σ624 86 38 ∧ σ624 86 38 ≤ 120 := hI625.1 86 38
          rintro _ _ ⟨σ640, rfl, hI641, hG642, v632, rfl, hv632, hp633⟩
          have hF643 : qFr [(86, 36), (86, 38), (86, 39)] [] σ α σ640 α := qFr_t hF627 hG642 (by decide) (by decide)
          have hs644 : 0 ≤ σ640 86 36 ∧ σ640 86 36 ≤ 120 := hI641.1 86 36
          rw [hF627.1 86 35 (by decide), hF627.1 86 37 (by decide)] at hp633
          show qr_W (qe L xs vb) (d + 2) qx_e219 _ (96, _, [.int (qz v632)], qw σ640 α κ ρ, 0, 0)
          refine qr_if_ne 104 99 rfl rfl rfl (qrg hv632 (by decide) (by decide)) (fun h645 => ?_) (fun h645 => ?_)
          · skip
            refine qr_aload_n 105 rfl rfl rfl ?_
            refine qr_dup 106 rfl rfl rfl ?_
            refine qr_get 109 rfl rfl rfl (by decide) rfl ?_
            refine qy_v (σ624 86 39) ((hG642.1 86 39 (by decide)).trans rfl) ?_
            refine qr_iconst 110 rfl rfl ?_
            refine qr_isub 111 rfl rfl ?_
            as_aux_lemma =>
              refine qr_put 114 rfl (by decide) rfl (Nat.le_of_ble_eq_true rfl) (Nat.le_of_ble_eq_true rfl) (Or.inl rfl) (qr_fitI rfl _) rfl ?_
              refine qy_wS (qw_s σ640 86 39 ((σ624 86 39) - 1)) rfl (fun σ646 e647 => ?_)
              have hI648 : qI σ646 α κ ρ := by rw [e647]; exact qI_s hI641 86 39 rfl (show 0 ≤ ((σ624 86 39) - 1) ∧ ((σ624 86 39) - 1) ≤ 6 by omega)
              have hF649 : qFr [(86, 36), (86, 38), (86, 39)] [] σ α σ646 α := by rw [e647]; exact qFr_s hF643 86 39 _ (by decide)
              refine qr_iload_n 115 rfl rfl rfl ?_
              refine qr_bipush 117 rfl (by decide) rfl ?_
              refine qr_icmp_ne 124 120 rfl rfl rfl hv2 (by decide) (fun h => False.elim (by omega)) (fun h650 => ?_)
              refine qr_iload_n 121 rfl rfl rfl ?_
              refine qr_goto 144 rfl rfl ?_
              refine qr_retI rfl rfl (by decide) (by decide) ?_
              have hw651 : σ646 86 36 = (σ640 86 36) := (congrFun (congrFun e647 86) 36).trans rfl
              have hw652 : σ646 86 38 = (σ624 86 38) := (congrFun (congrFun e647 86) 38).trans ((hG642.1 86 38 (by decide)).trans rfl)
              have hw653 : σ646 86 39 = ((σ624 86 39) - 1) := (congrFun (congrFun e647 86) 39).trans rfl
              exact ⟨_, rfl, hI648, hF649, v615, rfl, hv615, by omega, (by rw [show σ646 86 36 = (σ640 86 36) from (congrFun (congrFun e647 86) 36).trans rfl, show σ646 86 38 = (σ624 86 38) from (congrFun (congrFun e647 86) 38).trans ((hG642.1 86 38 (by decide)).trans rfl)]; exact qO_p (T := (qtT (α 106) (α 107) (σ 86 35))) (n := (σ 86 37)) (N := (α 109)) (r := ro) (a := (σ 86 36)) (a2 := (σ624 86 36)) (fa := (σ624 86 38)) (by omega) (by omega) hx617 (by omega) (by omega))⟩
          · skip
            refine qr_aload_n 100 rfl rfl rfl ?_
            refine qr_callN 103 rfl rfl rfl (sf_221_86x (d := d + 1) hI641 ) ?_
            have hs656 : 0 ≤ σ640 86 36 ∧ σ640 86 36 ≤ 120 := hI641.1 86 36
            have hs657 : (-1) ≤ σ640 86 38 ∧ σ640 86 38 ≤ 120 := hI641.1 86 38
            have hs658 : σ640 86 38 = (σ624 86 38) := (hG642.1 86 38 (by decide)).trans rfl
            rintro _ _ ⟨σ659, rfl, hI660, hG661, v654, rfl, hv654, hp655⟩
            have hF662 : qFr [(86, 36), (86, 38), (86, 39)] [] σ α σ659 α := qFr_t hF643 hG661 (by decide) (by decide)
            have hs663 : (-1) ≤ σ659 86 38 ∧ σ659 86 38 ≤ 120 := hI660.1 86 38
            rw [(show σ640 86 38 = (σ624 86 38) from (hG642.1 86 38 (by decide)).trans rfl)] at hp655
            show qr_W (qe L xs vb) (d + 2) qx_e219 _ (103, _, [.int (qz v654)], qw σ659 α κ ρ, 0, 0)
            refine qr_retI rfl rfl (by decide) (by decide) ?_
            have hw664 : σ659 86 36 = (σ640 86 36) := (hG661.1 86 36 (by decide)).trans rfl
            have hw665 : σ659 86 38 = (σ659 86 38) := rfl
            have hw666 : σ659 86 39 = (σ624 86 39) := (hG661.1 86 39 (by decide)).trans ((hG642.1 86 39 (by decide)).trans rfl)
            exact ⟨_, rfl, hI660, hF662, v654, rfl, (qrg hv654 (by decide) (by decide)), by omega, (by rw [show σ659 86 36 = (σ640 86 36) from (hG661.1 86 36 (by decide)).trans rfl]; exact qO_p (T := (qtT (α 106) (α 107) (σ 86 35))) (n := (σ 86 37)) (N := (α 109)) (r := ro) (a := (σ 86 36)) (a2 := (σ624 86 36)) (fa := (σ624 86 38)) (by omega) (by omega) hx617 (by omega) (by omega))⟩
        · skip
          refine qr_aload_n 42 rfl rfl rfl ?_
          refine qr_callN 45 rfl rfl rfl (sf_221_86x (d := d + 1) hI ) ?_
          have hs669 : 0 ≤ σ 86 36 ∧ σ 86 36 ≤ 120 := hI.1 86 36
          have hs670 : (-1) ≤ σ 86 38 ∧ σ 86 38 ≤ 120 := hI.1 86 38
          rintro _ _ ⟨σ671, rfl, hI672, hG673, v667, rfl, hv667, hp668⟩
          have hF674 : qFr [(86, 36), (86, 38), (86, 39)] [] σ α σ671 α := qFr_t hF0 hG673 (by decide) (by decide)
          have hs675 : (-1) ≤ σ671 86 38 ∧ σ671 86 38 ≤ 120 := hI672.1 86 38
          show qr_W (qe L xs vb) (d + 2) qx_e219 _ (45, _, [.int (qz v667)], qw σ671 α κ ρ, 0, 0)
          refine qr_retI rfl rfl (by decide) (by decide) ?_
          have hw676 : σ671 86 36 = (σ 86 36) := (hG673.1 86 36 (by decide)).trans rfl
          have hw677 : σ671 86 38 = (σ671 86 38) := rfl
          have hw678 : σ671 86 39 = (σ 86 39) := (hG673.1 86 39 (by decide)).trans rfl
          exact ⟨_, rfl, hI672, hF674, v667, rfl, (qrg hv667 (by decide) (by decide)), by omega, (by rw [show σ671 86 36 = (σ 86 36) from (hG673.1 86 36 (by decide)).trans rfl]; rw [show σ671 86 38 = σ 86 36 by omega]; exact qO_b (T := (qtT (α 106) (α 107) (σ 86 35))) (n := (σ 86 37)) (N := (α 109)) (r := ro) (a := (σ 86 36)) _ (by omega))⟩
theorem sq_up {L : Nat} {xs : Nat → Int} {vb : Bool} {d : Nat} {κ : Nat → Option Nat} {ρ : Nat} {ro : Nat} (hO : (∀ {σ α : Nat → Nat → Int}, qI σ α κ ρ → σ 86 36 ≤ σ 86 37 → σ 86 38 = -1 → σ 86 39 + (ro : Int) = 6 → qm_T (qe L xs vb) (d + 3) 219 [.ref 86] (qw σ α κ ρ) (fun r w' => ∃ σ', w' = qw σ' α κ ρ ∧ qI σ' α κ ρ ∧ qFr [(86, 36), (86, 38), (86, 39)] [] σ α σ' α ∧ ∃ v : Int, r = some (.int (qz v)) ∧ ((-2147483648) ≤ v ∧ v ≤ 2147483647) ∧ (σ 86 36 ≤ σ' 86 36 ∧ σ' 86 36 ≤ σ 86 37 ∧ σ 86 39 ≤ σ' 86 39 ∧ ((σ' 86 38 = -1 ∧ σ' 86 39 = σ 86 39 ∧ σ 86 36 < σ' 86 36) ∨ σ' 86 38 = σ' 86 36)) ∧ qRes ((fun b => qtx_on (qtT (α 106) (α 107) (σ 86 35)) (σ 86 37) (α 109) ro b) (σ 86 36)) v (σ' 86 36) (σ' 86 38)))) : (∀ {σ α : Nat → Nat → Int}, qI σ α κ ρ → σ 86 36 ≤ σ 86 37 → σ 86 38 = -1 → σ 86 39 + (ro : Int) = 6 → qm_T (qe L xs vb) (d + 8) 214 [.ref 86] (qw σ α κ ρ) (fun r w' => ∃ σ', w' = qw σ' α κ ρ ∧ qI σ' α κ ρ ∧ qFr [(86, 36), (86, 38), (86, 39)] [] σ α σ' α ∧ ∃ v : Int, r = some (.int (qz v)) ∧ ((-2147483648) ≤ v ∧ v ≤ 2147483647) ∧ (σ 86 36 ≤ σ' 86 36 ∧ σ' 86 36 ≤ σ 86 37 ∧ σ 86 39 ≤ σ' 86 39 ∧ ((σ' 86 38 = -1 ∧ σ' 86 39 = σ 86 39 ∧ σ 86 36 < σ' 86 36) ∨ σ' 86 38 = σ' 86 36)) ∧ qRes ((qtx_lv (qtT (α 106) (α 107) (σ 86 35)) (σ 86 37) (fun b => qtx_on (qtT (α 106) (α 107) (σ 86 35)) (σ 86 37) (α 109) ro b) 5) (σ 86 36)) v (σ' 86 36) (σ' 86 38))) := by
  have hP := fun {σ α : Nat → Nat → Int} (hI : qI σ α κ ρ) p0 p1 p2 => sf_218_86x (d := d + 2) (ro := ro) hO hI p0 p1 p2
  have hS := fun {σ α : Nat → Nat → Int} (hI : qI σ α κ ρ) p0 p1 p2 => sf_217_86x (d := d + 3) (ro := ro) hP hI p0 p1 p2
  have hC := fun {σ α : Nat → Nat → Int} (hI : qI σ α κ ρ) p0 p1 p2 => sf_216_86x (d := d + 4) (ro := ro) hS hI p0 p1 p2
  have hB := fun {σ α : Nat → Nat → Int} (hI : qI σ α κ ρ) p0 p1 p2 => sf_215_86x (d := d + 4) (ro := ro) hC hI p0 p1 p2
  intro σ α hI p0 p1 p2
  exact sf_214_86x (d := d + 5) (ro := ro) hB hI p0 p1 p2
theorem sq_all {L : Nat} {xs : Nat → Int} {vb : Bool} {d : Nat} {κ : Nat → Option Nat} {ρ : Nat} (ro : Nat) : (∀ {σ α : Nat → Nat → Int}, qI σ α κ ρ → σ 86 36 ≤ σ 86 37 → σ 86 38 = -1 → σ 86 39 + (ro : Int) = 6 → qm_T (qe L xs vb) (d + 6 * ro + 3) 219 [.ref 86] (qw σ α κ ρ) (fun r w' => ∃ σ', w' = qw σ' α κ ρ ∧ qI σ' α κ ρ ∧ qFr [(86, 36), (86, 38), (86, 39)] [] σ α σ' α ∧ ∃ v : Int, r = some (.int (qz v)) ∧ ((-2147483648) ≤ v ∧ v ≤ 2147483647) ∧ (σ 86 36 ≤ σ' 86 36 ∧ σ' 86 36 ≤ σ 86 37 ∧ σ 86 39 ≤ σ' 86 39 ∧ ((σ' 86 38 = -1 ∧ σ' 86 39 = σ 86 39 ∧ σ 86 36 < σ' 86 36) ∨ σ' 86 38 = σ' 86 36)) ∧ qRes ((fun b => qtx_on (qtT (α 106) (α 107) (σ 86 35)) (σ 86 37) (α 109) ro b) (σ 86 36)) v (σ' 86 36) (σ' 86 38))) ∧ (∀ {σ α : Nat → Nat → Int}, qI σ α κ ρ → σ 86 36 ≤ σ 86 37 → σ 86 38 = -1 → σ 86 39 + (ro : Int) = 6 → qm_T (qe L xs vb) (d + 6 * ro + 8) 214 [.ref 86] (qw σ α κ ρ) (fun r w' => ∃ σ', w' = qw σ' α κ ρ ∧ qI σ' α κ ρ ∧ qFr [(86, 36), (86, 38), (86, 39)] [] σ α σ' α ∧ ∃ v : Int, r = some (.int (qz v)) ∧ ((-2147483648) ≤ v ∧ v ≤ 2147483647) ∧ (σ 86 36 ≤ σ' 86 36 ∧ σ' 86 36 ≤ σ 86 37 ∧ σ 86 39 ≤ σ' 86 39 ∧ ((σ' 86 38 = -1 ∧ σ' 86 39 = σ 86 39 ∧ σ 86 36 < σ' 86 36) ∨ σ' 86 38 = σ' 86 36)) ∧ qRes ((qtx_lv (qtT (α 106) (α 107) (σ 86 35)) (σ 86 37) (fun b => qtx_on (qtT (α 106) (α 107) (σ 86 35)) (σ 86 37) (α 109) ro b) 5) (σ 86 36)) v (σ' 86 36) (σ' 86 38))) := by
  induction ro with
  | zero =>
    have hO : (∀ {σ α : Nat → Nat → Int}, qI σ α κ ρ → σ 86 36 ≤ σ 86 37 → σ 86 38 = -1 → σ 86 39 + ((0 : Nat) : Int) = 6 → qm_T (qe L xs vb) (d + 3) 219 [.ref 86] (qw σ α κ ρ) (fun r w' => ∃ σ', w' = qw σ' α κ ρ ∧ qI σ' α κ ρ ∧ qFr [(86, 36), (86, 38), (86, 39)] [] σ α σ' α ∧ ∃ v : Int, r = some (.int (qz v)) ∧ ((-2147483648) ≤ v ∧ v ≤ 2147483647) ∧ (σ 86 36 ≤ σ' 86 36 ∧ σ' 86 36 ≤ σ 86 37 ∧ σ 86 39 ≤ σ' 86 39 ∧ ((σ' 86 38 = -1 ∧ σ' 86 39 = σ 86 39 ∧ σ 86 36 < σ' 86 36) ∨ σ' 86 38 = σ' 86 36)) ∧ qRes ((fun b => qtx_on (qtT (α 106) (α 107) (σ 86 35)) (σ 86 37) (α 109) 0 b) (σ 86 36)) v (σ' 86 36) (σ' 86 38))) := fun hI p0 p1 p2 => sf_219_86x (d := d) (ro := 0) (fun _ h => absurd h (by decide)) (fun _ h => absurd h (by decide)) hI p0 p1 p2
    exact ⟨hO, sq_up hO⟩
  | succ rr ih =>
    obtain ⟨iO, iE⟩ := ih
    have hO : (∀ {σ α : Nat → Nat → Int}, qI σ α κ ρ → σ 86 36 ≤ σ 86 37 → σ 86 38 = -1 → σ 86 39 + ((rr + 1 : Nat) : Int) = 6 → qm_T (qe L xs vb) (d + 6 * rr + 9) 219 [.ref 86] (qw σ α κ ρ) (fun r w' => ∃ σ', w' = qw σ' α κ ρ ∧ qI σ' α κ ρ ∧ qFr [(86, 36), (86, 38), (86, 39)] [] σ α σ' α ∧ ∃ v : Int, r = some (.int (qz v)) ∧ ((-2147483648) ≤ v ∧ v ≤ 2147483647) ∧ (σ 86 36 ≤ σ' 86 36 ∧ σ' 86 36 ≤ σ 86 37 ∧ σ 86 39 ≤ σ' 86 39 ∧ ((σ' 86 38 = -1 ∧ σ' 86 39 = σ 86 39 ∧ σ 86 36 < σ' 86 36) ∨ σ' 86 38 = σ' 86 36)) ∧ qRes ((fun b => qtx_on (qtT (α 106) (α 107) (σ 86 35)) (σ 86 37) (α 109) (rr + 1) b) (σ 86 36)) v (σ' 86 36) (σ' 86 38))) := fun hI p0 p1 p2 => sf_219_86x (d := d + 6 * rr + 6) (ro := rr + 1) (fun hI _ q0 q1 q2 => iE hI q0 q1 q2) (fun hI _ q0 q1 q2 => qm_T_le _ (by omega) (iO hI q0 q1 q2)) hI p0 p1 p2
    exact ⟨hO, sq_up (d := d + 6 * (rr + 1)) hO⟩
end
section
theorem sq_E6 {L : Nat} {xs : Nat → Int} {vb : Bool} {d : Nat} {σ α : Nat → Nat → Int} {κ : Nat → Option Nat} {ρ : Nat} (hI : qI σ α κ ρ) (p0 : σ 86 36 ≤ σ 86 37) (p1 : σ 86 38 = -1) (p2 : σ 86 39 = 0) : qm_T (qe L xs vb) (d + 44) 214 [.ref 86] (qw σ α κ ρ) (fun r w' => ∃ σ', w' = qw σ' α κ ρ ∧ qI σ' α κ ρ ∧ qFr [(86, 36), (86, 38), (86, 39)] [] σ α σ' α ∧ ∃ v : Int, r = some (.int (qz v)) ∧ ((-2147483648) ≤ v ∧ v ≤ 2147483647) ∧ (σ 86 36 ≤ σ' 86 36 ∧ σ' 86 36 ≤ σ 86 37 ∧ σ 86 39 ≤ σ' 86 39 ∧ ((σ' 86 38 = -1 ∧ σ' 86 39 = σ 86 39 ∧ σ 86 36 < σ' 86 36) ∨ σ' 86 38 = σ' 86 36)) ∧ qRes ((qtx_E (qtT (α 106) (α 107) (σ 86 35)) (σ 86 37) (α 109) 6) (σ 86 36)) v (σ' 86 36) (σ' 86 38)) :=
  (sq_all (d := d) 6).2 hI p0 p1 (by omega)

set_option maxHeartbeats 4000000 in
set_option maxRecDepth 20000 in
/-- OneRoofModel.workOut -/
theorem sf_213_86x {L : Nat} {xs : Nat → Int} {vb : Bool} {d : Nat} {σ α : Nat → Nat → Int} {κ : Nat → Option Nat} {ρ : Nat} {x1 : Int} {x2 : Int} (hI : qI σ α κ ρ) (r1 : (-1) ≤ x1 ∧ x1 ≤ 120) (r2 : 0 ≤ x2 ∧ x2 ≤ 120) : qm_T (qe L xs vb) (d + 45) 213 [.ref 86, .int (qz x1), .int (qz x2)] (qw σ α κ ρ) (fun r w' => ∃ σ', w' = qw σ' α κ ρ ∧ qI σ' α κ ρ ∧ qFr [(86, 35), (86, 36), (86, 37), (86, 38), (86, 39)] [] σ α σ' α ∧ ∃ v : Int, r = some (.int (qz v)) ∧ ((-2147483648) ≤ v ∧ v ≤ 2147483647) ∧ -1 ≤ σ' 86 38 ∧ qReW (qtx_W (qtT (α 106) (α 107) x1) x2 (α 109)) v (σ' 86 38)) := by
  refine qr_start (d := d + 44) qv_e213 (Nat.le_of_ble_eq_true rfl) ?_
  show qr_W (qe L xs vb) (d + 44) qx_e213 _ (0, [(0, .ref 86), (1, .int (qz x1)), (2, .int (qz x2))], [], _, 0, 0)
  have hF0 := qFr_rf [(86, 35), (86, 36), (86, 37), (86, 38), (86, 39)] [] σ α
  have hz86_35 : (-1) ≤ σ 86 35 ∧ σ 86 35 ≤ 120 := hI.1 86 35
  have hz86_36 : 0 ≤ σ 86 36 ∧ σ 86 36 ≤ 120 := hI.1 86 36
  have hz86_37 : 0 ≤ σ 86 37 ∧ σ 86 37 ≤ 120 := hI.1 86 37
  have hz86_38 : (-1) ≤ σ 86 38 ∧ σ 86 38 ≤ 120 := hI.1 86 38
  have hz86_39 : 0 ≤ σ 86 39 ∧ σ 86 39 ≤ 6 := hI.1 86 39
  refine qr_aload_n 1 rfl rfl rfl ?_
  refine qr_iload_n 2 rfl rfl rfl ?_
  refine qr_put 5 rfl (by decide) rfl (Nat.le_of_ble_eq_true rfl) (Nat.le_of_ble_eq_true rfl) (Or.inl rfl) (qr_fitI rfl _) rfl ?_
  refine qy_wS (qw_s σ 86 35 x1) rfl (fun σ1 e2 => ?_)
  have hI3 : qI σ1 α κ ρ := by rw [e2]; exact qI_s hI 86 35 rfl (show (-1) ≤ x1 ∧ x1 ≤ 120 by omega)
  have hF4 : qFr [(86, 35), (86, 36), (86, 37), (86, 38), (86, 39)] [] σ α σ1 α := by rw [e2]; exact qFr_s hF0 86 35 _ (by decide)
  refine qr_aload_n 6 rfl rfl rfl ?_
  refine qr_iconst 7 rfl rfl ?_
  refine qr_put 10 rfl (by decide) rfl (Nat.le_of_ble_eq_true rfl) (Nat.le_of_ble_eq_true rfl) (Or.inl rfl) (qr_fitI rfl _) rfl ?_
  refine qy_wS (qw_s σ1 86 36 0) rfl (fun σ5 e6 => ?_)
  have hI7 : qI σ5 α κ ρ := by rw [e6]; exact qI_s hI3 86 36 rfl (show 0 ≤ 0 ∧ 0 ≤ 120 by omega)
  have hF8 : qFr [(86, 35), (86, 36), (86, 37), (86, 38), (86, 39)] [] σ α σ5 α := by rw [e6]; exact qFr_s hF4 86 36 _ (by decide)
  refine qr_aload_n 11 rfl rfl rfl ?_
  refine qr_iload_n 12 rfl rfl rfl ?_
  refine qr_put 15 rfl (by decide) rfl (Nat.le_of_ble_eq_true rfl) (Nat.le_of_ble_eq_true rfl) (Or.inl rfl) (qr_fitI rfl _) rfl ?_
  refine qy_wS (qw_s σ5 86 37 x2) rfl (fun σ9 e10 => ?_)
  have hI11 : qI σ9 α κ ρ := by rw [e10]; exact qI_s hI7 86 37 rfl (show 0 ≤ x2 ∧ x2 ≤ 120 by omega)
  have hF12 : qFr [(86, 35), (86, 36), (86, 37), (86, 38), (86, 39)] [] σ α σ9 α := by rw [e10]; exact qFr_s hF8 86 37 _ (by decide)
  refine qr_aload_n 16 rfl rfl rfl ?_
  refine qr_iconst 17 rfl rfl ?_
  refine qr_put 20 rfl (by decide) rfl (Nat.le_of_ble_eq_true rfl) (Nat.le_of_ble_eq_true rfl) (Or.inl rfl) (qr_fitI rfl _) rfl ?_
  refine qy_wS (qw_s σ9 86 38 (-1)) rfl (fun σ13 e14 => ?_)
  have hI15 : qI σ13 α κ ρ := by rw [e14]; exact qI_s hI11 86 38 rfl (show (-1) ≤ (-1) ∧ (-1) ≤ 120 by omega)
  have hF16 : qFr [(86, 35), (86, 36), (86, 37), (86, 38), (86, 39)] [] σ α σ13 α := by rw [e14]; exact qFr_s hF12 86 38 _ (by decide)
  refine qr_aload_n 21 rfl rfl rfl ?_
  refine qr_iconst 22 rfl rfl ?_
  refine qr_put 25 rfl (by decide) rfl (Nat.le_of_ble_eq_true rfl) (Nat.le_of_ble_eq_true rfl) (Or.inl rfl) (qr_fitI rfl _) rfl ?_
  refine qy_wS (qw_s σ13 86 39 0) rfl (fun σ17 e18 => ?_)
  have hI19 : qI σ17 α κ ρ := by rw [e18]; exact qI_s hI15 86 39 rfl (show 0 ≤ 0 ∧ 0 ≤ 6 by omega)
  have hF20 : qFr [(86, 35), (86, 36), (86, 37), (86, 38), (86, 39)] [] σ α σ17 α := by rw [e18]; exact qFr_s hF16 86 39 _ (by decide)
  refine qr_iconst 26 rfl rfl ?_
  refine qr_istore_n _ 27 rfl (by decide) rfl rfl ?_
  refine qr_iconst 28 rfl rfl ?_
  refine qr_istore _ 30 rfl (by decide) rfl rfl ?_
  refine qr_iconst 31 rfl rfl ?_
  refine qr_istore _ 33 rfl (by decide) rfl rfl ?_
  have hL993 : ∀ (n : Nat) (ls : qm_L) (u977 u979 u981 : Int) (σ982 : Nat → Nat → Int), 2 * ((120 - σ982 86 36).toNat : Int) + u981 < (n : Int) → qm_get ls 0 = some (.ref 86) → qm_get ls 3 = some (.int (qz u977)) → qm_get ls 4 = some (.int (qz u979)) → qm_get ls 5 = some (.int (qz u981)) → (0 ≤ u977 ∧ u977 ≤ 1) → ((-2147483648) ≤ u979 ∧ u979 ≤ 2147483647) → (0 ≤ u981 ∧ u981 ≤ 1) → qI σ982 α κ ρ → qFr [(86, 35), (86, 36), (86, 37), (86, 38), (86, 39)] [] σ α σ982 α → σ982 86 35 = x1 → σ982 86 37 = x2 → qWI (qtT (α 106) (α 107) x1) x2 (qtx_E (qtT (α 106) (α 107) x1) x2 (α 109) 6) (qtx_W (qtT (α 106) (α 107) x1) x2 (α 109)) u977 u979 u981 (σ982 86 36) (σ982 86 38) → (σ982 86 36 ≤ x2 ∧ (σ982 86 38 = -1 ∨ σ982 86 38 = σ982 86 36 ∨ 0 ≤ σ982 86 38) ∧ (u981 = 1 → σ982 86 38 = -1 ∧ σ982 86 39 = 0) ∧ (u977 = 0 ∨ u977 = 1)) → qr_W (qe L xs vb) (d + 44) qx_e213 (fun r w' => ∃ σ', w' = qw σ' α κ ρ ∧ qI σ' α κ ρ ∧ qFr [(86, 35), (86, 36), (86, 37), (86, 38), (86, 39)] [] σ α σ' α ∧ ∃ v : Int, r = some (.int (qz v)) ∧ ((-2147483648) ≤ v ∧ v ≤ 2147483647) ∧ -1 ≤ σ' 86 38 ∧ qReW (qtx_W (qtT (α 106) (α 107) x1) x2 (α 109)) v (σ' 86 38)) (33, ls, [], qw σ982 α κ ρ, 0, 0) := by
    intro n
    induction n with
    | zero => intro ls u977 u979 u981 σ982 hm g975 g976 g978 g980 hf988 hf989 hf990 hI984 hF985 hk986 hk987 hx991 hx992; exact False.elim (by omega)
    | succ n ih994 =>
      intro ls u977 u979 u981 σ982 hm g975 g976 g978 g980 hf988 hf989 hf990 hI984 hF985 hk986 hk987 hx991 hx992
      have hs995 : 0 ≤ σ982 86 36 ∧ σ982 86 36 ≤ 120 := hI984.1 86 36
      have hs996 : (-1) ≤ σ982 86 38 ∧ σ982 86 38 ≤ 120 := hI984.1 86 38
      have hs997 : 0 ≤ σ982 86 39 ∧ σ982 86 39 ≤ 6 := hI984.1 86 39
      refine qr_iload 35 rfl g980 rfl ?_
      refine qr_if_eq 107 38 rfl rfl rfl (qrg hf990 (by decide) (by decide)) (fun h998 => ?_) (fun h998 => ?_)
      · skip
        refine qr_aload_n 108 rfl g975 rfl ?_
        refine qr_get 111 rfl rfl rfl (by decide) rfl ?_
        refine qr_if_ge 130 114 rfl rfl rfl (by omega) (fun h999 => ?_) (fun h999 => ?_)
        · skip
          refine qr_iload 132 rfl g978 rfl ?_
          refine qr_retI rfl rfl (by decide) (by decide) ?_
          have hw1000 : σ982 86 38 = (σ982 86 38) := rfl
          exact ⟨_, rfl, hI984, hF985, u979, rfl, hf989, by omega, (by exact qWI_e2 (by have h9 := hx991; rw [show u981 = 0 by omega] at h9; exact h9) (by omega))⟩
        · skip
          refine qr_aload_n 115 rfl g975 rfl ?_
          refine qr_get 118 rfl rfl rfl (by decide) rfl ?_
          refine qr_aload_n 119 rfl g975 rfl ?_
          refine qr_get 122 rfl rfl rfl (by decide) rfl ?_
          refine qy_v x2 ((hk987).trans rfl) ?_
          refine qr_icmp_ge 130 125 rfl rfl rfl (by omega) (qrg r2 (by decide) (by decide)) (fun h1001 => ?_) (fun h1001 => ?_)
          · skip
            refine qr_iload 132 rfl g978 rfl ?_
            refine qr_retI rfl rfl (by decide) (by decide) ?_
            have hw1002 : σ982 86 38 = (σ982 86 38) := rfl
            exact ⟨_, rfl, hI984, hF985, u979, rfl, hf989, by omega, (by exact qWI_e2 (by have h9 := hx991; rw [show u981 = 0 by omega] at h9; exact h9) (by omega))⟩
          · skip
            refine qr_aload_n 126 rfl g975 rfl ?_
            refine qr_callN 129 rfl rfl rfl (sf_221_86x (d := d + 43) hI984 ) ?_
            have hs1005 : 0 ≤ σ982 86 36 ∧ σ982 86 36 ≤ 120 := hI984.1 86 36
            have hs1006 : (-1) ≤ σ982 86 38 ∧ σ982 86 38 ≤ 120 := hI984.1 86 38
            rintro _ _ ⟨σ1007, rfl, hI1008, hG1009, v1003, rfl, hv1003, hp1004⟩
            have hF1010 : qFr [(86, 35), (86, 36), (86, 37), (86, 38), (86, 39)] [] σ α σ1007 α := qFr_t hF985 hG1009 (by decide) (by decide)
            have hs1011 : (-1) ≤ σ1007 86 38 ∧ σ1007 86 38 ≤ 120 := hI1008.1 86 38
            show qr_W (qe L xs vb) (d + 44) qx_e213 _ (129, _, [.int (qz v1003)], qw σ1007 α κ ρ, 0, 0)
            refine qr_retI rfl rfl (by decide) (by decide) ?_
            have hw1012 : σ1007 86 38 = (σ1007 86 38) := rfl
            exact ⟨_, rfl, hI1008, hF1010, v1003, rfl, (qrg hv1003 (by decide) (by decide)), by omega, (by rw [show σ1007 86 38 = σ982 86 36 by omega]; exact qWI_e1 _ (by have h9 := hx991; rw [show u981 = 0 by omega, show σ982 86 38 = -1 by omega] at h9; exact h9) (by omega))⟩
      · skip
        refine qr_aload_n 39 rfl g975 rfl ?_
        have hs1013 : 0 ≤ σ982 86 36 ∧ σ982 86 36 ≤ 120 := hI984.1 86 36
        have hs1014 : 0 ≤ σ982 86 37 ∧ σ982 86 37 ≤ 120 := hI984.1 86 37
        have hs1015 : σ982 86 37 = x2 := (hk987).trans rfl
        have hs1016 : (-1) ≤ σ982 86 38 ∧ σ982 86 38 ≤ 120 := hI984.1 86 38
        have hs1017 : 0 ≤ σ982 86 39 ∧ σ982 86 39 ≤ 6 := hI984.1 86 39
        refine qr_callN 42 rfl rfl rfl (sq_E6 (d := d + 0) hI984 (by omega) (by omega) (by omega)) ?_
        have hs1021 : 0 ≤ σ982 86 36 ∧ σ982 86 36 ≤ 120 := hI984.1 86 36
        have hs1022 : 0 ≤ σ982 86 37 ∧ σ982 86 37 ≤ 120 := hI984.1 86 37
        have hs1023 : σ982 86 37 = x2 := (hk987).trans rfl
        have hs1024 : 0 ≤ σ982 86 39 ∧ σ982 86 39 ≤ 6 := hI984.1 86 39
        rintro _ _ ⟨σ1025, rfl, hI1026, hG1027, v1018, rfl, hv1018, hp1019, hx1020⟩
        have hF1028 : qFr [(86, 35), (86, 36), (86, 37), (86, 38), (86, 39)] [] σ α σ1025 α := qFr_t hF985 hG1027 (by decide) (by decide)
        have hs1029 : 0 ≤ σ1025 86 36 ∧ σ1025 86 36 ≤ 120 := hI1026.1 86 36
        have hs1030 : (-1) ≤ σ1025 86 38 ∧ σ1025 86 38 ≤ 120 := hI1026.1 86 38
        have hs1031 : 0 ≤ σ1025 86 39 ∧ σ1025 86 39 ≤ 6 := hI1026.1 86 39
        rw [(show σ982 86 37 = x2 from (hk987).trans rfl)] at hp1019
        rw [(show σ982 86 35 = x1 from (hk986).trans rfl), (show σ982 86 37 = x2 from (hk987).trans rfl)] at hx1020
        show qr_W (qe L xs vb) (d + 44) qx_e213 _ (42, _, [.int (qz v1018)], qw σ1025 α κ ρ, 0, 0)
        refine qr_istore _ 44 rfl (by decide) rfl rfl ?_
        refine qr_iconst 45 rfl rfl ?_
        refine qr_istore _ 47 rfl (by decide) rfl rfl ?_
        refine qr_aload_n 48 rfl (qm_gk (qm_gk g975 (by decide) (Or.inl (by decide))) (by decide) (Or.inl (by decide))) rfl ?_
        refine qr_bipush 50 rfl (by decide) rfl ?_
        refine qr_callN 53 rfl rfl rfl (sf_222_86x (d := d + 42) hI1026 (by decide) (by omega)) ?_
        have hs1034 : (-1) ≤ σ1025 86 35 ∧ σ1025 86 35 ≤ 120 := hI1026.1 86 35
        have hs1035 : σ1025 86 35 = x1 := (hG1027.1 86 35 (by decide)).trans ((hk986).trans rfl)
        have hs1036 : 0 ≤ σ1025 86 36 ∧ σ1025 86 36 ≤ 120 := hI1026.1 86 36
        have hs1037 : 0 ≤ σ1025 86 37 ∧ σ1025 86 37 ≤ 120 := hI1026.1 86 37
        have hs1038 : σ1025 86 37 = x2 := (hG1027.1 86 37 (by decide)).trans ((hk987).trans rfl)
        have hs1039 : (-1) ≤ σ1025 86 38 ∧ σ1025 86 38 ≤ 120 := hI1026.1 86 38
        rintro _ _ ⟨σ1040, rfl, hI1041, hG1042, v1032, rfl, hv1032, hp1033⟩
        have hF1043 : qFr [(86, 35), (86, 36), (86, 37), (86, 38), (86, 39)] [] σ α σ1040 α := qFr_t hF1028 hG1042 (by decide) (by decide)
        have hs1044 : 0 ≤ σ1040 86 36 ∧ σ1040 86 36 ≤ 120 := hI1041.1 86 36
        rw [(show σ1025 86 35 = x1 from (hG1027.1 86 35 (by decide)).trans ((hk986).trans rfl)), (show σ1025 86 37 = x2 from (hG1027.1 86 37 (by decide)).trans ((hk987).trans rfl))] at hp1033
        show qr_W (qe L xs vb) (d + 44) qx_e213 _ (53, _, [.int (qz v1032)], qw σ1040 α κ ρ, 0, 0)
        refine qr_if_eq 74 56 rfl rfl rfl (qrg hv1032 (by decide) (by decide)) (fun h1045 => ?_) (fun h1045 => ?_)
        · skip
          refine qr_aload_n 75 rfl (qm_gk (qm_gk g975 (by decide) (Or.inl (by decide))) (by decide) (Or.inl (by decide))) rfl ?_
          refine qr_get 78 rfl rfl rfl (by decide) rfl ?_
          refine qy_v (σ1025 86 38) ((hG1042.1 86 38 (by decide)).trans rfl) ?_
          refine qr_if_ge 96 81 rfl rfl rfl (by omega) (fun h1046 => ?_) (fun h1046 => ?_)
          · skip
            refine qr_aload_n 97 rfl (qm_gk (qm_gk g975 (by decide) (Or.inl (by decide))) (by decide) (Or.inl (by decide))) rfl ?_
            refine qr_bipush 99 rfl (by decide) rfl ?_
            refine qr_callN 102 rfl rfl rfl (sf_222_86x (d := d + 42) hI1041 (by decide) (by omega)) ?_
            have hs1049 : (-1) ≤ σ1040 86 35 ∧ σ1040 86 35 ≤ 120 := hI1041.1 86 35
            have hs1050 : σ1040 86 35 = x1 := (hG1042.1 86 35 (by decide)).trans ((hG1027.1 86 35 (by decide)).trans ((hk986).trans rfl))
            have hs1051 : 0 ≤ σ1040 86 36 ∧ σ1040 86 36 ≤ 120 := hI1041.1 86 36
            have hs1052 : 0 ≤ σ1040 86 37 ∧ σ1040 86 37 ≤ 120 := hI1041.1 86 37
            have hs1053 : σ1040 86 37 = x2 := (hG1042.1 86 37 (by decide)).trans ((hG1027.1 86 37 (by decide)).trans ((hk987).trans rfl))
            have hs1054 : (-1) ≤ σ1040 86 38 ∧ σ1040 86 38 ≤ 120 := hI1041.1 86 38
            have hs1055 : σ1040 86 38 = (σ1025 86 38) := (hG1042.1 86 38 (by decide)).trans rfl
            rintro _ _ ⟨σ1056, rfl, hI1057, hG1058, v1047, rfl, hv1047, hp1048⟩
            have hF1059 : qFr [(86, 35), (86, 36), (86, 37), (86, 38), (86, 39)] [] σ α σ1056 α := qFr_t hF1043 hG1058 (by decide) (by decide)
            have hs1060 : 0 ≤ σ1056 86 36 ∧ σ1056 86 36 ≤ 120 := hI1057.1 86 36
            rw [(show σ1040 86 35 = x1 from (hG1042.1 86 35 (by decide)).trans ((hG1027.1 86 35 (by decide)).trans ((hk986).trans rfl))), (show σ1040 86 37 = x2 from (hG1042.1 86 37 (by decide)).trans ((hG1027.1 86 37 (by decide)).trans ((hk987).trans rfl))), (show σ1040 86 38 = (σ1025 86 38) from (hG1042.1 86 38 (by decide)).trans rfl)] at hp1048
            show qr_W (qe L xs vb) (d + 44) qx_e213 _ (102, _, [.int (qz v1047)], qw σ1056 α κ ρ, 0, 0)
            refine qr_istore _ 104 rfl (by decide) rfl rfl ?_
            refine qr_goto 33 rfl rfl ?_
            exact ih994 _ u977 u979 v1047 σ1056 (by omega) (qm_gk (qm_gk (qm_gk g975 (by decide) (Or.inl (by decide))) (by decide) (Or.inl (by decide))) (by decide) (Or.inl (by decide))) (qm_gk (qm_gk (qm_gk g976 (by decide) (Or.inl (by decide))) (by decide) (Or.inl (by decide))) (by decide) (Or.inl (by decide))) (qm_gk (qm_gk (qm_gk g978 (by decide) (Or.inl (by decide))) (by decide) (Or.inl (by decide))) (by decide) (Or.inr rfl)) (qm_ge _ _ _) hf988 hf989 hv1047 hI1057 hF1059 ((hG1058.1 86 35 (by decide)).trans ((hG1042.1 86 35 (by decide)).trans ((hG1027.1 86 35 (by decide)).trans ((hk986).trans rfl)))) ((hG1058.1 86 37 (by decide)).trans ((hG1042.1 86 37 (by decide)).trans ((hG1027.1 86 37 (by decide)).trans ((hk987).trans rfl)))) (by rw [show σ1056 86 38 = (σ1025 86 38) from (hG1058.1 86 38 (by decide)).trans ((hG1042.1 86 38 (by decide)).trans rfl)]; exact qWI_s (h := 1) (v := v1018) (a := σ1025 86 36) (by have h9 := hx991; rw [show u981 = 1 by omega, show σ982 86 38 = -1 by omega] at h9; exact h9) (by omega) (qL_1 hx1020 (by omega) (by omega)) (by omega) (by omega) (fun hf => ⟨by unfold qtx_gi; split <;> omega, by unfold qtx_ge; repeat' split; all_goals omega⟩) (by rw [show σ1025 86 36 = σ1040 86 36 by omega]; omega)) (by have hw1 : σ1056 86 38 = (σ1025 86 38) := (hG1058.1 86 38 (by decide)).trans ((hG1042.1 86 38 (by decide)).trans rfl); have hw2 : σ1056 86 39 = (σ1025 86 39) := (hG1058.1 86 39 (by decide)).trans ((hG1042.1 86 39 (by decide)).trans rfl); omega)
          · skip
            refine qr_iload 83 rfl (qm_ge _ _ _) rfl ?_
            refine qr_if_eq 96 86 rfl rfl rfl (by decide) (fun h => False.elim (by omega)) (fun h1061 => ?_)
            refine qr_iload_n 87 rfl (qm_gk (qm_gk g976 (by decide) (Or.inl (by decide))) (by decide) (Or.inl (by decide))) rfl ?_
            refine qr_if_ne 96 90 rfl rfl rfl (qrg hf988 (by decide) (by decide)) (fun h1062 => ?_) (fun h1062 => ?_)
            · skip
              refine qr_aload_n 97 rfl (qm_gk (qm_gk g975 (by decide) (Or.inl (by decide))) (by decide) (Or.inl (by decide))) rfl ?_
              refine qr_bipush 99 rfl (by decide) rfl ?_
              refine qr_callN 102 rfl rfl rfl (sf_222_86x (d := d + 42) hI1041 (by decide) (by omega)) ?_
              have hs1065 : (-1) ≤ σ1040 86 35 ∧ σ1040 86 35 ≤ 120 := hI1041.1 86 35
              have hs1066 : σ1040 86 35 = x1 := (hG1042.1 86 35 (by decide)).trans ((hG1027.1 86 35 (by decide)).trans ((hk986).trans rfl))
              have hs1067 : 0 ≤ σ1040 86 36 ∧ σ1040 86 36 ≤ 120 := hI1041.1 86 36
              have hs1068 : 0 ≤ σ1040 86 37 ∧ σ1040 86 37 ≤ 120 := hI1041.1 86 37
              have hs1069 : σ1040 86 37 = x2 := (hG1042.1 86 37 (by decide)).trans ((hG1027.1 86 37 (by decide)).trans ((hk987).trans rfl))
              have hs1070 : (-1) ≤ σ1040 86 38 ∧ σ1040 86 38 ≤ 120 := hI1041.1 86 38
              have hs1071 : σ1040 86 38 = (σ1025 86 38) := (hG1042.1 86 38 (by decide)).trans rfl
              rintro _ _ ⟨σ1072, rfl, hI1073, hG1074, v1063, rfl, hv1063, hp1064⟩
              have hF1075 : qFr [(86, 35), (86, 36), (86, 37), (86, 38), (86, 39)] [] σ α σ1072 α := qFr_t hF1043 hG1074 (by decide) (by decide)
              have hs1076 : 0 ≤ σ1072 86 36 ∧ σ1072 86 36 ≤ 120 := hI1073.1 86 36
              rw [(show σ1040 86 35 = x1 from (hG1042.1 86 35 (by decide)).trans ((hG1027.1 86 35 (by decide)).trans ((hk986).trans rfl))), (show σ1040 86 37 = x2 from (hG1042.1 86 37 (by decide)).trans ((hG1027.1 86 37 (by decide)).trans ((hk987).trans rfl))), (show σ1040 86 38 = (σ1025 86 38) from (hG1042.1 86 38 (by decide)).trans rfl)] at hp1064
              show qr_W (qe L xs vb) (d + 44) qx_e213 _ (102, _, [.int (qz v1063)], qw σ1072 α κ ρ, 0, 0)
              refine qr_istore _ 104 rfl (by decide) rfl rfl ?_
              refine qr_goto 33 rfl rfl ?_
              exact ih994 _ u977 u979 v1063 σ1072 (by omega) (qm_gk (qm_gk (qm_gk g975 (by decide) (Or.inl (by decide))) (by decide) (Or.inl (by decide))) (by decide) (Or.inl (by decide))) (qm_gk (qm_gk (qm_gk g976 (by decide) (Or.inl (by decide))) (by decide) (Or.inl (by decide))) (by decide) (Or.inl (by decide))) (qm_gk (qm_gk (qm_gk g978 (by decide) (Or.inl (by decide))) (by decide) (Or.inl (by decide))) (by decide) (Or.inr rfl)) (qm_ge _ _ _) hf988 hf989 hv1063 hI1073 hF1075 ((hG1074.1 86 35 (by decide)).trans ((hG1042.1 86 35 (by decide)).trans ((hG1027.1 86 35 (by decide)).trans ((hk986).trans rfl)))) ((hG1074.1 86 37 (by decide)).trans ((hG1042.1 86 37 (by decide)).trans ((hG1027.1 86 37 (by decide)).trans ((hk987).trans rfl)))) (by rw [show σ1072 86 38 = (σ1025 86 38) from (hG1074.1 86 38 (by decide)).trans ((hG1042.1 86 38 (by decide)).trans rfl)]; exact qWI_s (h := 1) (v := v1018) (a := σ1025 86 36) (by have h9 := hx991; rw [show u981 = 1 by omega, show σ982 86 38 = -1 by omega] at h9; exact h9) (by omega) (qL_1 hx1020 (by omega) (by omega)) (by omega) (by omega) (fun hf => ⟨by unfold qtx_gi; split <;> omega, by unfold qtx_ge; repeat' split; all_goals omega⟩) (by rw [show σ1025 86 36 = σ1040 86 36 by omega]; omega)) (by have hw1 : σ1072 86 38 = (σ1025 86 38) := (hG1074.1 86 38 (by decide)).trans ((hG1042.1 86 38 (by decide)).trans rfl); have hw2 : σ1072 86 39 = (σ1025 86 39) := (hG1074.1 86 39 (by decide)).trans ((hG1042.1 86 39 (by decide)).trans rfl); omega)
            · skip
              refine qr_iconst 91 rfl rfl ?_
              refine qr_istore_n _ 92 rfl (by decide) rfl rfl ?_
              refine qr_iload 94 rfl (qm_gk (qm_gk (qm_ge _ _ _) (by decide) (Or.inr rfl)) (by decide) (Or.inl (by decide))) rfl ?_
              refine qr_istore _ 96 rfl (by decide) rfl rfl ?_
              refine qr_aload_n 97 rfl (qm_gk (qm_gk (qm_gk (qm_gk g975 (by decide) (Or.inl (by decide))) (by decide) (Or.inl (by decide))) (by decide) (Or.inl (by decide))) (by decide) (Or.inl (by decide))) rfl ?_
              refine qr_bipush 99 rfl (by decide) rfl ?_
              refine qr_callN 102 rfl rfl rfl (sf_222_86x (d := d + 42) hI1041 (by decide) (by omega)) ?_
              have hs1079 : (-1) ≤ σ1040 86 35 ∧ σ1040 86 35 ≤ 120 := hI1041.1 86 35
              have hs1080 : σ1040 86 35 = x1 := (hG1042.1 86 35 (by decide)).trans ((hG1027.1 86 35 (by decide)).trans ((hk986).trans rfl))
              have hs1081 : 0 ≤ σ1040 86 36 ∧ σ1040 86 36 ≤ 120 := hI1041.1 86 36
              have hs1082 : 0 ≤ σ1040 86 37 ∧ σ1040 86 37 ≤ 120 := hI1041.1 86 37
              have hs1083 : σ1040 86 37 = x2 := (hG1042.1 86 37 (by decide)).trans ((hG1027.1 86 37 (by decide)).trans ((hk987).trans rfl))
              have hs1084 : (-1) ≤ σ1040 86 38 ∧ σ1040 86 38 ≤ 120 := hI1041.1 86 38
              have hs1085 : σ1040 86 38 = (σ1025 86 38) := (hG1042.1 86 38 (by decide)).trans rfl
              rintro _ _ ⟨σ1086, rfl, hI1087, hG1088, v1077, rfl, hv1077, hp1078⟩
              have hF1089 : qFr [(86, 35), (86, 36), (86, 37), (86, 38), (86, 39)] [] σ α σ1086 α := qFr_t hF1043 hG1088 (by decide) (by decide)
              have hs1090 : 0 ≤ σ1086 86 36 ∧ σ1086 86 36 ≤ 120 := hI1087.1 86 36
              rw [(show σ1040 86 35 = x1 from (hG1042.1 86 35 (by decide)).trans ((hG1027.1 86 35 (by decide)).trans ((hk986).trans rfl))), (show σ1040 86 37 = x2 from (hG1042.1 86 37 (by decide)).trans ((hG1027.1 86 37 (by decide)).trans ((hk987).trans rfl))), (show σ1040 86 38 = (σ1025 86 38) from (hG1042.1 86 38 (by decide)).trans rfl)] at hp1078
              show qr_W (qe L xs vb) (d + 44) qx_e213 _ (102, _, [.int (qz v1077)], qw σ1086 α κ ρ, 0, 0)
              refine qr_istore _ 104 rfl (by decide) rfl rfl ?_
              refine qr_goto 33 rfl rfl ?_
              exact ih994 _ 1 v1018 v1077 σ1086 (by omega) (qm_gk (qm_gk (qm_gk (qm_gk (qm_gk g975 (by decide) (Or.inl (by decide))) (by decide) (Or.inl (by decide))) (by decide) (Or.inl (by decide))) (by decide) (Or.inl (by decide))) (by decide) (Or.inl (by decide))) (qm_gk (qm_gk (qm_ge _ _ _) (by decide) (Or.inr rfl)) (by decide) (Or.inl (by decide))) (qm_gk (qm_ge _ _ _) (by decide) (Or.inr rfl)) (qm_ge _ _ _) (by decide) hv1018 hv1077 hI1087 hF1089 ((hG1088.1 86 35 (by decide)).trans ((hG1042.1 86 35 (by decide)).trans ((hG1027.1 86 35 (by decide)).trans ((hk986).trans rfl)))) ((hG1088.1 86 37 (by decide)).trans ((hG1042.1 86 37 (by decide)).trans ((hG1027.1 86 37 (by decide)).trans ((hk987).trans rfl)))) (by rw [show σ1086 86 38 = (σ1025 86 38) from (hG1088.1 86 38 (by decide)).trans ((hG1042.1 86 38 (by decide)).trans rfl)]; exact qWI_s (h := 1) (v := v1018) (a := σ1025 86 36) (by have h9 := hx991; rw [show u981 = 1 by omega, show σ982 86 38 = -1 by omega] at h9; exact h9) (by omega) (qL_1 hx1020 (by omega) (by omega)) (by omega) (by omega) (fun hf => ⟨by unfold qtx_gi; split <;> omega, by unfold qtx_ge; repeat' split; all_goals omega⟩) (by rw [show σ1025 86 36 = σ1040 86 36 by omega]; omega)) (by have hw1 : σ1086 86 38 = (σ1025 86 38) := (hG1088.1 86 38 (by decide)).trans ((hG1042.1 86 38 (by decide)).trans rfl); have hw2 : σ1086 86 39 = (σ1025 86 39) := (hG1088.1 86 39 (by decide)).trans ((hG1042.1 86 39 (by decide)).trans rfl); omega)
        · skip
          refine qr_iload 58 rfl (qm_gk (qm_ge _ _ _) (by decide) (Or.inr rfl)) rfl ?_
          refine qr_if_eq 65 61 rfl rfl rfl hv1018 (fun h1091 => ?_) (fun h1091 => ?_)
          · skip
            refine qr_iconst 66 rfl rfl ?_
            refine qr_istore _ 68 rfl (by decide) rfl rfl ?_
            refine qr_aload_n 69 rfl (qm_gk (qm_gk (qm_gk g975 (by decide) (Or.inl (by decide))) (by decide) (Or.inl (by decide))) (by decide) (Or.inl (by decide))) rfl ?_
            have hs1092 : 0 ≤ σ1040 86 36 ∧ σ1040 86 36 ≤ 120 := hI1041.1 86 36
            have hs1093 : 0 ≤ σ1040 86 37 ∧ σ1040 86 37 ≤ 120 := hI1041.1 86 37
            have hs1094 : σ1040 86 37 = x2 := (hG1042.1 86 37 (by decide)).trans ((hG1027.1 86 37 (by decide)).trans ((hk987).trans rfl))
            have hs1095 : (-1) ≤ σ1040 86 38 ∧ σ1040 86 38 ≤ 120 := hI1041.1 86 38
            have hs1096 : σ1040 86 38 = (σ1025 86 38) := (hG1042.1 86 38 (by decide)).trans rfl
            have hs1097 : 0 ≤ σ1040 86 39 ∧ σ1040 86 39 ≤ 6 := hI1041.1 86 39
            have hs1098 : σ1040 86 39 = (σ1025 86 39) := (hG1042.1 86 39 (by decide)).trans rfl
            refine qr_callN 72 rfl rfl rfl (sq_E6 (d := d + 0) hI1041 (by omega) (by omega) (by omega)) ?_
            have hs1102 : 0 ≤ σ1040 86 36 ∧ σ1040 86 36 ≤ 120 := hI1041.1 86 36
            have hs1103 : 0 ≤ σ1040 86 37 ∧ σ1040 86 37 ≤ 120 := hI1041.1 86 37
            have hs1104 : σ1040 86 37 = x2 := (hG1042.1 86 37 (by decide)).trans ((hG1027.1 86 37 (by decide)).trans ((hk987).trans rfl))
            have hs1105 : 0 ≤ σ1040 86 39 ∧ σ1040 86 39 ≤ 6 := hI1041.1 86 39
            have hs1106 : σ1040 86 39 = (σ1025 86 39) := (hG1042.1 86 39 (by decide)).trans rfl
            rintro _ _ ⟨σ1107, rfl, hI1108, hG1109, v1099, rfl, hv1099, hp1100, hx1101⟩
            have hF1110 : qFr [(86, 35), (86, 36), (86, 37), (86, 38), (86, 39)] [] σ α σ1107 α := qFr_t hF1043 hG1109 (by decide) (by decide)
            have hs1111 : 0 ≤ σ1107 86 36 ∧ σ1107 86 36 ≤ 120 := hI1108.1 86 36
            have hs1112 : (-1) ≤ σ1107 86 38 ∧ σ1107 86 38 ≤ 120 := hI1108.1 86 38
            have hs1113 : 0 ≤ σ1107 86 39 ∧ σ1107 86 39 ≤ 6 := hI1108.1 86 39
            rw [(show σ1040 86 37 = x2 from (hG1042.1 86 37 (by decide)).trans ((hG1027.1 86 37 (by decide)).trans ((hk987).trans rfl))), (show σ1040 86 39 = (σ1025 86 39) from (hG1042.1 86 39 (by decide)).trans rfl)] at hp1100
            rw [(show σ1040 86 35 = x1 from (hG1042.1 86 35 (by decide)).trans ((hG1027.1 86 35 (by decide)).trans ((hk986).trans rfl))), (show σ1040 86 37 = x2 from (hG1042.1 86 37 (by decide)).trans ((hG1027.1 86 37 (by decide)).trans ((hk987).trans rfl)))] at hx1101
            show qr_W (qe L xs vb) (d + 44) qx_e213 _ (72, _, [.int (qz v1099)], qw σ1107 α κ ρ, 0, 0)
            refine qr_istore _ 74 rfl (by decide) rfl rfl ?_
            refine qr_aload_n 75 rfl (qm_gk (qm_gk (qm_gk (qm_gk g975 (by decide) (Or.inl (by decide))) (by decide) (Or.inl (by decide))) (by decide) (Or.inl (by decide))) (by decide) (Or.inl (by decide))) rfl ?_
            refine qr_get 78 rfl rfl rfl (by decide) rfl ?_
            refine qr_if_ge 96 81 rfl rfl rfl (by omega) (fun h1114 => ?_) (fun h1114 => ?_)
            · skip
              refine qr_aload_n 97 rfl (qm_gk (qm_gk (qm_gk (qm_gk g975 (by decide) (Or.inl (by decide))) (by decide) (Or.inl (by decide))) (by decide) (Or.inl (by decide))) (by decide) (Or.inl (by decide))) rfl ?_
              refine qr_bipush 99 rfl (by decide) rfl ?_
              refine qr_callN 102 rfl rfl rfl (sf_222_86x (d := d + 42) hI1108 (by decide) (by omega)) ?_
              have hs1117 : (-1) ≤ σ1107 86 35 ∧ σ1107 86 35 ≤ 120 := hI1108.1 86 35
              have hs1118 : σ1107 86 35 = x1 := (hG1109.1 86 35 (by decide)).trans ((hG1042.1 86 35 (by decide)).trans ((hG1027.1 86 35 (by decide)).trans ((hk986).trans rfl)))
              have hs1119 : 0 ≤ σ1107 86 36 ∧ σ1107 86 36 ≤ 120 := hI1108.1 86 36
              have hs1120 : 0 ≤ σ1107 86 37 ∧ σ1107 86 37 ≤ 120 := hI1108.1 86 37
              have hs1121 : σ1107 86 37 = x2 := (hG1109.1 86 37 (by decide)).trans ((hG1042.1 86 37 (by decide)).trans ((hG1027.1 86 37 (by decide)).trans ((hk987).trans rfl)))
              have hs1122 : (-1) ≤ σ1107 86 38 ∧ σ1107 86 38 ≤ 120 := hI1108.1 86 38
              rintro _ _ ⟨σ1123, rfl, hI1124, hG1125, v1115, rfl, hv1115, hp1116⟩
              have hF1126 : qFr [(86, 35), (86, 36), (86, 37), (86, 38), (86, 39)] [] σ α σ1123 α := qFr_t hF1110 hG1125 (by decide) (by decide)
              have hs1127 : 0 ≤ σ1123 86 36 ∧ σ1123 86 36 ≤ 120 := hI1124.1 86 36
              rw [(show σ1107 86 35 = x1 from (hG1109.1 86 35 (by decide)).trans ((hG1042.1 86 35 (by decide)).trans ((hG1027.1 86 35 (by decide)).trans ((hk986).trans rfl)))), (show σ1107 86 37 = x2 from (hG1109.1 86 37 (by decide)).trans ((hG1042.1 86 37 (by decide)).trans ((hG1027.1 86 37 (by decide)).trans ((hk987).trans rfl))))] at hp1116
              show qr_W (qe L xs vb) (d + 44) qx_e213 _ (102, _, [.int (qz v1115)], qw σ1123 α κ ρ, 0, 0)
              refine qr_istore _ 104 rfl (by decide) rfl rfl ?_
              refine qr_goto 33 rfl rfl ?_
              exact ih994 _ u977 u979 v1115 σ1123 (by omega) (qm_gk (qm_gk (qm_gk (qm_gk (qm_gk g975 (by decide) (Or.inl (by decide))) (by decide) (Or.inl (by decide))) (by decide) (Or.inl (by decide))) (by decide) (Or.inl (by decide))) (by decide) (Or.inl (by decide))) (qm_gk (qm_gk (qm_gk (qm_gk (qm_gk g976 (by decide) (Or.inl (by decide))) (by decide) (Or.inl (by decide))) (by decide) (Or.inl (by decide))) (by decide) (Or.inl (by decide))) (by decide) (Or.inl (by decide))) (qm_gk (qm_gk (qm_gk (qm_gk (qm_gk g978 (by decide) (Or.inl (by decide))) (by decide) (Or.inl (by decide))) (by decide) (Or.inl (by decide))) (by decide) (Or.inl (by decide))) (by decide) (Or.inr rfl)) (qm_ge _ _ _) hf988 hf989 hv1115 hI1124 hF1126 ((hG1125.1 86 35 (by decide)).trans ((hG1109.1 86 35 (by decide)).trans ((hG1042.1 86 35 (by decide)).trans ((hG1027.1 86 35 (by decide)).trans ((hk986).trans rfl))))) ((hG1125.1 86 37 (by decide)).trans ((hG1109.1 86 37 (by decide)).trans ((hG1042.1 86 37 (by decide)).trans ((hG1027.1 86 37 (by decide)).trans ((hk987).trans rfl))))) (by rw [show σ1123 86 38 = (σ1107 86 38) from (hG1125.1 86 38 (by decide)).trans rfl]; exact qWI_s (h := 0) (v := v1099) (a := σ1107 86 36) (by have h9 := hx991; rw [show u981 = 1 by omega, show σ982 86 38 = -1 by omega] at h9; exact h9) (by omega) (qL_2 (by have h9 := hx1020; rw [show σ1025 86 38 = -1 by omega] at h9; exact h9) (by omega) (by omega) (by have h8 := hx1101; rwa [show σ1040 86 36 = σ1025 86 36 + 1 by omega] at h8) (by omega)) (by omega) (by omega) (fun hf => ⟨by unfold qtx_gi; split <;> omega, by unfold qtx_ge; repeat' split; all_goals omega⟩) (by omega)) (by have hw1 : σ1123 86 38 = (σ1107 86 38) := (hG1125.1 86 38 (by decide)).trans rfl; have hw2 : σ1123 86 39 = (σ1107 86 39) := (hG1125.1 86 39 (by decide)).trans rfl; omega)
            · skip
              refine qr_iload 83 rfl (qm_gk (qm_ge _ _ _) (by decide) (Or.inl (by decide))) rfl ?_
              refine qr_if_eq 96 86 rfl rfl rfl (by decide) (fun h1128 => ?_) (fun h => False.elim (by omega))
              refine qr_aload_n 97 rfl (qm_gk (qm_gk (qm_gk (qm_gk g975 (by decide) (Or.inl (by decide))) (by decide) (Or.inl (by decide))) (by decide) (Or.inl (by decide))) (by decide) (Or.inl (by decide))) rfl ?_
              refine qr_bipush 99 rfl (by decide) rfl ?_
              refine qr_callN 102 rfl rfl rfl (sf_222_86x (d := d + 42) hI1108 (by decide) (by omega)) ?_
              have hs1131 : (-1) ≤ σ1107 86 35 ∧ σ1107 86 35 ≤ 120 := hI1108.1 86 35
              have hs1132 : σ1107 86 35 = x1 := (hG1109.1 86 35 (by decide)).trans ((hG1042.1 86 35 (by decide)).trans ((hG1027.1 86 35 (by decide)).trans ((hk986).trans rfl)))
              have hs1133 : 0 ≤ σ1107 86 36 ∧ σ1107 86 36 ≤ 120 := hI1108.1 86 36
              have hs1134 : 0 ≤ σ1107 86 37 ∧ σ1107 86 37 ≤ 120 := hI1108.1 86 37
              have hs1135 : σ1107 86 37 = x2 := (hG1109.1 86 37 (by decide)).trans ((hG1042.1 86 37 (by decide)).trans ((hG1027.1 86 37 (by decide)).trans ((hk987).trans rfl)))
              have hs1136 : (-1) ≤ σ1107 86 38 ∧ σ1107 86 38 ≤ 120 := hI1108.1 86 38
              rintro _ _ ⟨σ1137, rfl, hI1138, hG1139, v1129, rfl, hv1129, hp1130⟩
              have hF1140 : qFr [(86, 35), (86, 36), (86, 37), (86, 38), (86, 39)] [] σ α σ1137 α := qFr_t hF1110 hG1139 (by decide) (by decide)
              have hs1141 : 0 ≤ σ1137 86 36 ∧ σ1137 86 36 ≤ 120 := hI1138.1 86 36
              rw [(show σ1107 86 35 = x1 from (hG1109.1 86 35 (by decide)).trans ((hG1042.1 86 35 (by decide)).trans ((hG1027.1 86 35 (by decide)).trans ((hk986).trans rfl)))), (show σ1107 86 37 = x2 from (hG1109.1 86 37 (by decide)).trans ((hG1042.1 86 37 (by decide)).trans ((hG1027.1 86 37 (by decide)).trans ((hk987).trans rfl))))] at hp1130
              show qr_W (qe L xs vb) (d + 44) qx_e213 _ (102, _, [.int (qz v1129)], qw σ1137 α κ ρ, 0, 0)
              refine qr_istore _ 104 rfl (by decide) rfl rfl ?_
              refine qr_goto 33 rfl rfl ?_
              exact ih994 _ u977 u979 v1129 σ1137 (by omega) (qm_gk (qm_gk (qm_gk (qm_gk (qm_gk g975 (by decide) (Or.inl (by decide))) (by decide) (Or.inl (by decide))) (by decide) (Or.inl (by decide))) (by decide) (Or.inl (by decide))) (by decide) (Or.inl (by decide))) (qm_gk (qm_gk (qm_gk (qm_gk (qm_gk g976 (by decide) (Or.inl (by decide))) (by decide) (Or.inl (by decide))) (by decide) (Or.inl (by decide))) (by decide) (Or.inl (by decide))) (by decide) (Or.inl (by decide))) (qm_gk (qm_gk (qm_gk (qm_gk (qm_gk g978 (by decide) (Or.inl (by decide))) (by decide) (Or.inl (by decide))) (by decide) (Or.inl (by decide))) (by decide) (Or.inl (by decide))) (by decide) (Or.inr rfl)) (qm_ge _ _ _) hf988 hf989 hv1129 hI1138 hF1140 ((hG1139.1 86 35 (by decide)).trans ((hG1109.1 86 35 (by decide)).trans ((hG1042.1 86 35 (by decide)).trans ((hG1027.1 86 35 (by decide)).trans ((hk986).trans rfl))))) ((hG1139.1 86 37 (by decide)).trans ((hG1109.1 86 37 (by decide)).trans ((hG1042.1 86 37 (by decide)).trans ((hG1027.1 86 37 (by decide)).trans ((hk987).trans rfl))))) (by rw [show σ1137 86 38 = (σ1107 86 38) from (hG1139.1 86 38 (by decide)).trans rfl]; exact qWI_s (h := 0) (v := v1099) (a := σ1107 86 36) (by have h9 := hx991; rw [show u981 = 1 by omega, show σ982 86 38 = -1 by omega] at h9; exact h9) (by omega) (qL_2 (by have h9 := hx1020; rw [show σ1025 86 38 = -1 by omega] at h9; exact h9) (by omega) (by omega) (by have h8 := hx1101; rwa [show σ1040 86 36 = σ1025 86 36 + 1 by omega] at h8) (by omega)) (by omega) (by omega) (fun hf => ⟨by unfold qtx_gi; split <;> omega, by unfold qtx_ge; repeat' split; all_goals omega⟩) (by omega)) (by have hw1 : σ1137 86 38 = (σ1107 86 38) := (hG1139.1 86 38 (by decide)).trans rfl; have hw2 : σ1137 86 39 = (σ1107 86 39) := (hG1139.1 86 39 (by decide)).trans rfl; omega)
          · skip
            refine qr_iconst 62 rfl rfl ?_
            refine qr_goto 66 rfl rfl ?_
            refine qr_istore _ 68 rfl (by decide) rfl rfl ?_
            refine qr_aload_n 69 rfl (qm_gk (qm_gk (qm_gk g975 (by decide) (Or.inl (by decide))) (by decide) (Or.inl (by decide))) (by decide) (Or.inl (by decide))) rfl ?_
            have hs1142 : 0 ≤ σ1040 86 36 ∧ σ1040 86 36 ≤ 120 := hI1041.1 86 36
            have hs1143 : 0 ≤ σ1040 86 37 ∧ σ1040 86 37 ≤ 120 := hI1041.1 86 37
            have hs1144 : σ1040 86 37 = x2 := (hG1042.1 86 37 (by decide)).trans ((hG1027.1 86 37 (by decide)).trans ((hk987).trans rfl))
            have hs1145 : (-1) ≤ σ1040 86 38 ∧ σ1040 86 38 ≤ 120 := hI1041.1 86 38
            have hs1146 : σ1040 86 38 = (σ1025 86 38) := (hG1042.1 86 38 (by decide)).trans rfl
            have hs1147 : 0 ≤ σ1040 86 39 ∧ σ1040 86 39 ≤ 6 := hI1041.1 86 39
            have hs1148 : σ1040 86 39 = (σ1025 86 39) := (hG1042.1 86 39 (by decide)).trans rfl
            refine qr_callN 72 rfl rfl rfl (sq_E6 (d := d + 0) hI1041 (by omega) (by omega) (by omega)) ?_
            have hs1152 : 0 ≤ σ1040 86 36 ∧ σ1040 86 36 ≤ 120 := hI1041.1 86 36
            have hs1153 : 0 ≤ σ1040 86 37 ∧ σ1040 86 37 ≤ 120 := hI1041.1 86 37
            have hs1154 : σ1040 86 37 = x2 := (hG1042.1 86 37 (by decide)).trans ((hG1027.1 86 37 (by decide)).trans ((hk987).trans rfl))
            have hs1155 : 0 ≤ σ1040 86 39 ∧ σ1040 86 39 ≤ 6 := hI1041.1 86 39
            have hs1156 : σ1040 86 39 = (σ1025 86 39) := (hG1042.1 86 39 (by decide)).trans rfl
            rintro _ _ ⟨σ1157, rfl, hI1158, hG1159, v1149, rfl, hv1149, hp1150, hx1151⟩
            have hF1160 : qFr [(86, 35), (86, 36), (86, 37), (86, 38), (86, 39)] [] σ α σ1157 α := qFr_t hF1043 hG1159 (by decide) (by decide)
            have hs1161 : 0 ≤ σ1157 86 36 ∧ σ1157 86 36 ≤ 120 := hI1158.1 86 36
            have hs1162 : (-1) ≤ σ1157 86 38 ∧ σ1157 86 38 ≤ 120 := hI1158.1 86 38
            have hs1163 : 0 ≤ σ1157 86 39 ∧ σ1157 86 39 ≤ 6 := hI1158.1 86 39
            rw [(show σ1040 86 37 = x2 from (hG1042.1 86 37 (by decide)).trans ((hG1027.1 86 37 (by decide)).trans ((hk987).trans rfl))), (show σ1040 86 39 = (σ1025 86 39) from (hG1042.1 86 39 (by decide)).trans rfl)] at hp1150
            rw [(show σ1040 86 35 = x1 from (hG1042.1 86 35 (by decide)).trans ((hG1027.1 86 35 (by decide)).trans ((hk986).trans rfl))), (show σ1040 86 37 = x2 from (hG1042.1 86 37 (by decide)).trans ((hG1027.1 86 37 (by decide)).trans ((hk987).trans rfl)))] at hx1151
            show qr_W (qe L xs vb) (d + 44) qx_e213 _ (72, _, [.int (qz v1149)], qw σ1157 α κ ρ, 0, 0)
            refine qr_istore _ 74 rfl (by decide) rfl rfl ?_
            refine qr_aload_n 75 rfl (qm_gk (qm_gk (qm_gk (qm_gk g975 (by decide) (Or.inl (by decide))) (by decide) (Or.inl (by decide))) (by decide) (Or.inl (by decide))) (by decide) (Or.inl (by decide))) rfl ?_
            refine qr_get 78 rfl rfl rfl (by decide) rfl ?_
            refine qr_if_ge 96 81 rfl rfl rfl (by omega) (fun h1164 => ?_) (fun h1164 => ?_)
            · skip
              refine qr_aload_n 97 rfl (qm_gk (qm_gk (qm_gk (qm_gk g975 (by decide) (Or.inl (by decide))) (by decide) (Or.inl (by decide))) (by decide) (Or.inl (by decide))) (by decide) (Or.inl (by decide))) rfl ?_
              refine qr_bipush 99 rfl (by decide) rfl ?_
              refine qr_callN 102 rfl rfl rfl (sf_222_86x (d := d + 42) hI1158 (by decide) (by omega)) ?_
              have hs1167 : (-1) ≤ σ1157 86 35 ∧ σ1157 86 35 ≤ 120 := hI1158.1 86 35
              have hs1168 : σ1157 86 35 = x1 := (hG1159.1 86 35 (by decide)).trans ((hG1042.1 86 35 (by decide)).trans ((hG1027.1 86 35 (by decide)).trans ((hk986).trans rfl)))
              have hs1169 : 0 ≤ σ1157 86 36 ∧ σ1157 86 36 ≤ 120 := hI1158.1 86 36
              have hs1170 : 0 ≤ σ1157 86 37 ∧ σ1157 86 37 ≤ 120 := hI1158.1 86 37
              have hs1171 : σ1157 86 37 = x2 := (hG1159.1 86 37 (by decide)).trans ((hG1042.1 86 37 (by decide)).trans ((hG1027.1 86 37 (by decide)).trans ((hk987).trans rfl)))
              have hs1172 : (-1) ≤ σ1157 86 38 ∧ σ1157 86 38 ≤ 120 := hI1158.1 86 38
              rintro _ _ ⟨σ1173, rfl, hI1174, hG1175, v1165, rfl, hv1165, hp1166⟩
              have hF1176 : qFr [(86, 35), (86, 36), (86, 37), (86, 38), (86, 39)] [] σ α σ1173 α := qFr_t hF1160 hG1175 (by decide) (by decide)
              have hs1177 : 0 ≤ σ1173 86 36 ∧ σ1173 86 36 ≤ 120 := hI1174.1 86 36
              rw [(show σ1157 86 35 = x1 from (hG1159.1 86 35 (by decide)).trans ((hG1042.1 86 35 (by decide)).trans ((hG1027.1 86 35 (by decide)).trans ((hk986).trans rfl)))), (show σ1157 86 37 = x2 from (hG1159.1 86 37 (by decide)).trans ((hG1042.1 86 37 (by decide)).trans ((hG1027.1 86 37 (by decide)).trans ((hk987).trans rfl))))] at hp1166
              show qr_W (qe L xs vb) (d + 44) qx_e213 _ (102, _, [.int (qz v1165)], qw σ1173 α κ ρ, 0, 0)
              refine qr_istore _ 104 rfl (by decide) rfl rfl ?_
              refine qr_goto 33 rfl rfl ?_
              exact ih994 _ u977 u979 v1165 σ1173 (by omega) (qm_gk (qm_gk (qm_gk (qm_gk (qm_gk g975 (by decide) (Or.inl (by decide))) (by decide) (Or.inl (by decide))) (by decide) (Or.inl (by decide))) (by decide) (Or.inl (by decide))) (by decide) (Or.inl (by decide))) (qm_gk (qm_gk (qm_gk (qm_gk (qm_gk g976 (by decide) (Or.inl (by decide))) (by decide) (Or.inl (by decide))) (by decide) (Or.inl (by decide))) (by decide) (Or.inl (by decide))) (by decide) (Or.inl (by decide))) (qm_gk (qm_gk (qm_gk (qm_gk (qm_gk g978 (by decide) (Or.inl (by decide))) (by decide) (Or.inl (by decide))) (by decide) (Or.inl (by decide))) (by decide) (Or.inl (by decide))) (by decide) (Or.inr rfl)) (qm_ge _ _ _) hf988 hf989 hv1165 hI1174 hF1176 ((hG1175.1 86 35 (by decide)).trans ((hG1159.1 86 35 (by decide)).trans ((hG1042.1 86 35 (by decide)).trans ((hG1027.1 86 35 (by decide)).trans ((hk986).trans rfl))))) ((hG1175.1 86 37 (by decide)).trans ((hG1159.1 86 37 (by decide)).trans ((hG1042.1 86 37 (by decide)).trans ((hG1027.1 86 37 (by decide)).trans ((hk987).trans rfl))))) (by rw [show σ1173 86 38 = (σ1157 86 38) from (hG1175.1 86 38 (by decide)).trans rfl]; exact qWI_s (h := 1) (v := v1149) (a := σ1157 86 36) (by have h9 := hx991; rw [show u981 = 1 by omega, show σ982 86 38 = -1 by omega] at h9; exact h9) (by omega) (qL_2 (by have h9 := hx1020; rw [show σ1025 86 38 = -1 by omega] at h9; exact h9) (by omega) (by omega) (by have h8 := hx1151; rwa [show σ1040 86 36 = σ1025 86 36 + 1 by omega] at h8) (by omega)) (by omega) (by omega) (fun hf => ⟨by unfold qtx_gi; split <;> omega, by unfold qtx_ge; repeat' split; all_goals omega⟩) (by omega)) (by have hw1 : σ1173 86 38 = (σ1157 86 38) := (hG1175.1 86 38 (by decide)).trans rfl; have hw2 : σ1173 86 39 = (σ1157 86 39) := (hG1175.1 86 39 (by decide)).trans rfl; omega)
            · skip
              refine qr_iload 83 rfl (qm_gk (qm_ge _ _ _) (by decide) (Or.inl (by decide))) rfl ?_
              refine qr_if_eq 96 86 rfl rfl rfl (by decide) (fun h => False.elim (by omega)) (fun h1178 => ?_)
              refine qr_iload_n 87 rfl (qm_gk (qm_gk (qm_gk (qm_gk g976 (by decide) (Or.inl (by decide))) (by decide) (Or.inl (by decide))) (by decide) (Or.inl (by decide))) (by decide) (Or.inl (by decide))) rfl ?_
              refine qr_if_ne 96 90 rfl rfl rfl (qrg hf988 (by decide) (by decide)) (fun h1179 => ?_) (fun h1179 => ?_)
              · skip
                refine qr_aload_n 97 rfl (qm_gk (qm_gk (qm_gk (qm_gk g975 (by decide) (Or.inl (by decide))) (by decide) (Or.inl (by decide))) (by decide) (Or.inl (by decide))) (by decide) (Or.inl (by decide))) rfl ?_
                refine qr_bipush 99 rfl (by decide) rfl ?_
                refine qr_callN 102 rfl rfl rfl (sf_222_86x (d := d + 42) hI1158 (by decide) (by omega)) ?_
                have hs1182 : (-1) ≤ σ1157 86 35 ∧ σ1157 86 35 ≤ 120 := hI1158.1 86 35
                have hs1183 : σ1157 86 35 = x1 := (hG1159.1 86 35 (by decide)).trans ((hG1042.1 86 35 (by decide)).trans ((hG1027.1 86 35 (by decide)).trans ((hk986).trans rfl)))
                have hs1184 : 0 ≤ σ1157 86 36 ∧ σ1157 86 36 ≤ 120 := hI1158.1 86 36
                have hs1185 : 0 ≤ σ1157 86 37 ∧ σ1157 86 37 ≤ 120 := hI1158.1 86 37
                have hs1186 : σ1157 86 37 = x2 := (hG1159.1 86 37 (by decide)).trans ((hG1042.1 86 37 (by decide)).trans ((hG1027.1 86 37 (by decide)).trans ((hk987).trans rfl)))
                have hs1187 : (-1) ≤ σ1157 86 38 ∧ σ1157 86 38 ≤ 120 := hI1158.1 86 38
                rintro _ _ ⟨σ1188, rfl, hI1189, hG1190, v1180, rfl, hv1180, hp1181⟩
                have hF1191 : qFr [(86, 35), (86, 36), (86, 37), (86, 38), (86, 39)] [] σ α σ1188 α := qFr_t hF1160 hG1190 (by decide) (by decide)
                have hs1192 : 0 ≤ σ1188 86 36 ∧ σ1188 86 36 ≤ 120 := hI1189.1 86 36
                rw [(show σ1157 86 35 = x1 from (hG1159.1 86 35 (by decide)).trans ((hG1042.1 86 35 (by decide)).trans ((hG1027.1 86 35 (by decide)).trans ((hk986).trans rfl)))), (show σ1157 86 37 = x2 from (hG1159.1 86 37 (by decide)).trans ((hG1042.1 86 37 (by decide)).trans ((hG1027.1 86 37 (by decide)).trans ((hk987).trans rfl))))] at hp1181
                show qr_W (qe L xs vb) (d + 44) qx_e213 _ (102, _, [.int (qz v1180)], qw σ1188 α κ ρ, 0, 0)
                refine qr_istore _ 104 rfl (by decide) rfl rfl ?_
                refine qr_goto 33 rfl rfl ?_
                exact ih994 _ u977 u979 v1180 σ1188 (by omega) (qm_gk (qm_gk (qm_gk (qm_gk (qm_gk g975 (by decide) (Or.inl (by decide))) (by decide) (Or.inl (by decide))) (by decide) (Or.inl (by decide))) (by decide) (Or.inl (by decide))) (by decide) (Or.inl (by decide))) (qm_gk (qm_gk (qm_gk (qm_gk (qm_gk g976 (by decide) (Or.inl (by decide))) (by decide) (Or.inl (by decide))) (by decide) (Or.inl (by decide))) (by decide) (Or.inl (by decide))) (by decide) (Or.inl (by decide))) (qm_gk (qm_gk (qm_gk (qm_gk (qm_gk g978 (by decide) (Or.inl (by decide))) (by decide) (Or.inl (by decide))) (by decide) (Or.inl (by decide))) (by decide) (Or.inl (by decide))) (by decide) (Or.inr rfl)) (qm_ge _ _ _) hf988 hf989 hv1180 hI1189 hF1191 ((hG1190.1 86 35 (by decide)).trans ((hG1159.1 86 35 (by decide)).trans ((hG1042.1 86 35 (by decide)).trans ((hG1027.1 86 35 (by decide)).trans ((hk986).trans rfl))))) ((hG1190.1 86 37 (by decide)).trans ((hG1159.1 86 37 (by decide)).trans ((hG1042.1 86 37 (by decide)).trans ((hG1027.1 86 37 (by decide)).trans ((hk987).trans rfl))))) (by rw [show σ1188 86 38 = (σ1157 86 38) from (hG1190.1 86 38 (by decide)).trans rfl]; exact qWI_s (h := 1) (v := v1149) (a := σ1157 86 36) (by have h9 := hx991; rw [show u981 = 1 by omega, show σ982 86 38 = -1 by omega] at h9; exact h9) (by omega) (qL_2 (by have h9 := hx1020; rw [show σ1025 86 38 = -1 by omega] at h9; exact h9) (by omega) (by omega) (by have h8 := hx1151; rwa [show σ1040 86 36 = σ1025 86 36 + 1 by omega] at h8) (by omega)) (by omega) (by omega) (fun hf => ⟨by unfold qtx_gi; split <;> omega, by unfold qtx_ge; repeat' split; all_goals omega⟩) (by omega)) (by have hw1 : σ1188 86 38 = (σ1157 86 38) := (hG1190.1 86 38 (by decide)).trans rfl; have hw2 : σ1188 86 39 = (σ1157 86 39) := (hG1190.1 86 39 (by decide)).trans rfl; omega)
              · skip
                refine qr_iconst 91 rfl rfl ?_
                refine qr_istore_n _ 92 rfl (by decide) rfl rfl ?_
                refine qr_iload 94 rfl (qm_gk (qm_ge _ _ _) (by decide) (Or.inl (by decide))) rfl ?_
                refine qr_istore _ 96 rfl (by decide) rfl rfl ?_
                refine qr_aload_n 97 rfl (qm_gk (qm_gk (qm_gk (qm_gk (qm_gk (qm_gk g975 (by decide) (Or.inl (by decide))) (by decide) (Or.inl (by decide))) (by decide) (Or.inl (by decide))) (by decide) (Or.inl (by decide))) (by decide) (Or.inl (by decide))) (by decide) (Or.inl (by decide))) rfl ?_
                refine qr_bipush 99 rfl (by decide) rfl ?_
                refine qr_callN 102 rfl rfl rfl (sf_222_86x (d := d + 42) hI1158 (by decide) (by omega)) ?_
                have hs1195 : (-1) ≤ σ1157 86 35 ∧ σ1157 86 35 ≤ 120 := hI1158.1 86 35
                have hs1196 : σ1157 86 35 = x1 := (hG1159.1 86 35 (by decide)).trans ((hG1042.1 86 35 (by decide)).trans ((hG1027.1 86 35 (by decide)).trans ((hk986).trans rfl)))
                have hs1197 : 0 ≤ σ1157 86 36 ∧ σ1157 86 36 ≤ 120 := hI1158.1 86 36
                have hs1198 : 0 ≤ σ1157 86 37 ∧ σ1157 86 37 ≤ 120 := hI1158.1 86 37
                have hs1199 : σ1157 86 37 = x2 := (hG1159.1 86 37 (by decide)).trans ((hG1042.1 86 37 (by decide)).trans ((hG1027.1 86 37 (by decide)).trans ((hk987).trans rfl)))
                have hs1200 : (-1) ≤ σ1157 86 38 ∧ σ1157 86 38 ≤ 120 := hI1158.1 86 38
                rintro _ _ ⟨σ1201, rfl, hI1202, hG1203, v1193, rfl, hv1193, hp1194⟩
                have hF1204 : qFr [(86, 35), (86, 36), (86, 37), (86, 38), (86, 39)] [] σ α σ1201 α := qFr_t hF1160 hG1203 (by decide) (by decide)
                have hs1205 : 0 ≤ σ1201 86 36 ∧ σ1201 86 36 ≤ 120 := hI1202.1 86 36
                rw [(show σ1157 86 35 = x1 from (hG1159.1 86 35 (by decide)).trans ((hG1042.1 86 35 (by decide)).trans ((hG1027.1 86 35 (by decide)).trans ((hk986).trans rfl)))), (show σ1157 86 37 = x2 from (hG1159.1 86 37 (by decide)).trans ((hG1042.1 86 37 (by decide)).trans ((hG1027.1 86 37 (by decide)).trans ((hk987).trans rfl))))] at hp1194
                show qr_W (qe L xs vb) (d + 44) qx_e213 _ (102, _, [.int (qz v1193)], qw σ1201 α κ ρ, 0, 0)
                refine qr_istore _ 104 rfl (by decide) rfl rfl ?_
                refine qr_goto 33 rfl rfl ?_
                exact ih994 _ 1 v1149 v1193 σ1201 (by omega) (qm_gk (qm_gk (qm_gk (qm_gk (qm_gk (qm_gk (qm_gk g975 (by decide) (Or.inl (by decide))) (by decide) (Or.inl (by decide))) (by decide) (Or.inl (by decide))) (by decide) (Or.inl (by decide))) (by decide) (Or.inl (by decide))) (by decide) (Or.inl (by decide))) (by decide) (Or.inl (by decide))) (qm_gk (qm_gk (qm_ge _ _ _) (by decide) (Or.inr rfl)) (by decide) (Or.inl (by decide))) (qm_gk (qm_ge _ _ _) (by decide) (Or.inr rfl)) (qm_ge _ _ _) (by decide) hv1149 hv1193 hI1202 hF1204 ((hG1203.1 86 35 (by decide)).trans ((hG1159.1 86 35 (by decide)).trans ((hG1042.1 86 35 (by decide)).trans ((hG1027.1 86 35 (by decide)).trans ((hk986).trans rfl))))) ((hG1203.1 86 37 (by decide)).trans ((hG1159.1 86 37 (by decide)).trans ((hG1042.1 86 37 (by decide)).trans ((hG1027.1 86 37 (by decide)).trans ((hk987).trans rfl))))) (by rw [show σ1201 86 38 = (σ1157 86 38) from (hG1203.1 86 38 (by decide)).trans rfl]; exact qWI_s (h := 1) (v := v1149) (a := σ1157 86 36) (by have h9 := hx991; rw [show u981 = 1 by omega, show σ982 86 38 = -1 by omega] at h9; exact h9) (by omega) (qL_2 (by have h9 := hx1020; rw [show σ1025 86 38 = -1 by omega] at h9; exact h9) (by omega) (by omega) (by have h8 := hx1151; rwa [show σ1040 86 36 = σ1025 86 36 + 1 by omega] at h8) (by omega)) (by omega) (by omega) (fun hf => ⟨by unfold qtx_gi; split <;> omega, by unfold qtx_ge; repeat' split; all_goals omega⟩) (by omega)) (by have hw1 : σ1201 86 38 = (σ1157 86 38) := (hG1203.1 86 38 (by decide)).trans rfl; have hw2 : σ1201 86 39 = (σ1157 86 39) := (hG1203.1 86 39 (by decide)).trans rfl; omega)
  exact hL993 ((2 * ((120 - σ17 86 36).toNat : Int) + 1 + 1 : Int)).toNat _ 0 0 1 σ17 (by omega) rfl rfl rfl rfl (by decide) (by decide) (by decide) hI19 hF20 ((congrFun (congrFun e18 86) 35).trans ((congrFun (congrFun e14 86) 35).trans ((congrFun (congrFun e10 86) 35).trans ((congrFun (congrFun e6 86) 35).trans ((congrFun (congrFun e2 86) 35).trans rfl))))) ((congrFun (congrFun e18 86) 37).trans ((congrFun (congrFun e14 86) 37).trans ((congrFun (congrFun e10 86) 37).trans rfl))) (by rw [show σ17 86 36 = 0 from (congrFun (congrFun e18 86) 36).trans ((congrFun (congrFun e14 86) 36).trans ((congrFun (congrFun e10 86) 36).trans ((congrFun (congrFun e6 86) 36).trans rfl))), show σ17 86 38 = (-1) from (congrFun (congrFun e18 86) 38).trans ((congrFun (congrFun e14 86) 38).trans rfl)]; exact Or.inl ⟨rfl, rfl, 121, rfl, by omega⟩) (by have hw0 : σ17 86 36 = 0 := (congrFun (congrFun e18 86) 36).trans ((congrFun (congrFun e14 86) 36).trans ((congrFun (congrFun e10 86) 36).trans ((congrFun (congrFun e6 86) 36).trans rfl))); have hw1 : σ17 86 38 = (-1) := (congrFun (congrFun e18 86) 38).trans ((congrFun (congrFun e14 86) 38).trans rfl); have hw2 : σ17 86 39 = 0 := (congrFun (congrFun e18 86) 39).trans rfl; omega)
end
