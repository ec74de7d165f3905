/-! a new tie laid into the table: P says of a number that it is a way -/
def qCl (P : Int → Int → Int → Prop) (a b : Int) : Prop := ∀ t1 t2 x y : Int, (0 ≤ x ∧ x < 32) → (0 ≤ y ∧ y < 32) → (P t1 x a → P t2 b y → P (t1 + t2 + 1) x y) ∧ (P t1 x b → P t2 a y → P (t1 + t2 + 1) x y)
def qJn (P : Int → Int → Int → Prop) (f g : Nat → Int) (a b n i j : Int) : Prop := (∀ x y : Int, (0 ≤ x ∧ x < 32) → (0 ≤ y ∧ y < 32) → qTb g x y ≤ qTb f x y) ∧ (∀ x y : Int, (0 ≤ x ∧ x < 32) → (0 ≤ y ∧ y < 32) → P (qTb g x y) x y) ∧ (∀ x y : Int, 0 ≤ x → (0 ≤ y ∧ y < n) → (x < i ∨ (x = i ∧ y < j)) → qTb g x y ≤ qTb f x a + qTb f b y + 1 ∧ qTb g x y ≤ qTb f x b + qTb f a y + 1)
theorem qJn_0 {P : Int → Int → Int → Prop} {f : Nat → Int} {a b n : Int} (h : ∀ x y : Int, (0 ≤ x ∧ x < 32) → (0 ≤ y ∧ y < 32) → P (qTb f x y) x y) : qJn P f f a b n 0 0 := by
  refine ⟨fun _ _ _ _ => Int.le_refl _, h, fun x y hx hy hp => ?_⟩
  exact False.elim (by omega)
theorem qJn_row {P : Int → Int → Int → Prop} {f g : Nat → Int} {a b n i j : Int} (h : qJn P f g a b n i j) (hj : n ≤ j) : qJn P f g a b n (i + 1) 0 := by
  refine ⟨h.1, h.2.1, fun x y hx hy hp => h.2.2 x y hx hy ?_⟩
  omega
theorem qJn_end {P : Int → Int → Int → Prop} {f g : Nat → Int} {a b n i : Int} (h : qJn P f g a b n i 0) (hi : n ≤ i) : qJn P f g a b n n 0 :=
  ⟨h.1, h.2.1, fun x y hx hy hp => h.2.2 x y hx hy (by omega)⟩
theorem qJn_skip {P : Int → Int → Int → Prop} {f g : Nat → Int} {a b n i j : Int} (h : qJn P f g a b n i j) (hi : 0 ≤ i ∧ i < 32) (hj : 0 ≤ j ∧ j < n) (hn : n ≤ 32) (ha : 0 ≤ a ∧ a < 32) (hb : 0 ≤ b ∧ b < 32) {t1 t2 t3 t4 t5 m : Int} (e1 : t1 = qTb g i a) (e2 : t2 = qTb g b j) (e3 : t3 = qTb g i b) (e4 : t4 = qTb g a j) (e5 : t5 = qTb g i j) (hm : m ≤ t1 + t2 ∧ m ≤ t3 + t4) (hl : t5 ≤ m + 1) : qJn P f g a b n i (j + 1) := by
  refine ⟨h.1, h.2.1, fun x y hx hy hp => ?_⟩
  by_cases e : x = i ∧ y = j
  · obtain ⟨rfl, rfl⟩ := e
    have h1 := h.1 x a hi ha
    have h2 := h.1 b y hb (by omega)
    have h3 := h.1 x b hi hb
    have h4 := h.1 a y ha (by omega)
    omega
  · exact h.2.2 x y hx hy (by omega)
theorem qJn_set {P : Int → Int → Int → Prop} {f g : Nat → Int} {a b n i j : Int} (h : qJn P f g a b n i j) (cl : qCl P a b) (hi : 0 ≤ i ∧ i < 32) (hj : 0 ≤ j ∧ j < n) (hn : n ≤ 32) (ha : 0 ≤ a ∧ a < 32) (hb : 0 ≤ b ∧ b < 32) {k : Nat} (hk : k = (i * 32 + j : Int).toNat) {t1 t2 t3 t4 t5 m : Int} (e1 : t1 = qTb g i a) (e2 : t2 = qTb g b j) (e3 : t3 = qTb g i b) (e4 : t4 = qTb g a j) (e5 : t5 = qTb g i j) (hm : (m = t1 + t2 ∨ m = t3 + t4) ∧ m ≤ t1 + t2 ∧ m ≤ t3 + t4) (hl : m + 1 < t5) : qJn P f (qzu g k (m + 1)) a b n i (j + 1) := by
  have hj2 : 0 ≤ j ∧ j < 32 := by omega
  refine ⟨fun x y hx hy => ?_, fun x y hx hy => ?_, fun x y hx hy hp => ?_⟩
  · rw [qTb_u hk hi hj2 hx.1 hy]
    split
    · next e =>
      obtain ⟨rfl, rfl⟩ := e
      have h1 := h.1 x y hx hy
      omega
    · exact h.1 x y hx hy
  · rw [qTb_u hk hi hj2 hx.1 hy]
    split
    · next e =>
      obtain ⟨rfl, rfl⟩ := e
      rcases hm.1 with h5 | h5
      · rw [h5, e1, e2]
        exact (cl _ _ x y hx hy).1 (h.2.1 x a hx ha) (h.2.1 b y hb hy)
      · rw [h5, e3, e4]
        exact (cl _ _ x y hx hy).2 (h.2.1 x b hx hb) (h.2.1 a y ha hy)
    · exact h.2.1 x y hx hy
  · rw [qTb_u hk hi hj2 hx (by omega)]
    split
    · next e =>
      obtain ⟨rfl, rfl⟩ := e
      have h1 := h.1 x a hi ha
      have h2 := h.1 b y hb (by omega)
      have h3 := h.1 x b hi hb
      have h4 := h.1 a y ha (by omega)
      omega
    · exact h.2.2 x y hx hy (by omega)

set_option maxHeartbeats 4000000 in
set_option maxRecDepth 20000 in
/-- OneRoof$Kinship.apart -/
theorem sf_57_23x {L : Nat} {xs : Nat → Int} {vb : Bool} {d : Nat} {σ α : Nat → Nat → Int} {κ : Nat → Option Nat} {ρ : Nat} {x1 : Int} {x2 : Int} (hI : qI σ α κ ρ) (r1 : 0 ≤ x1 ∧ x1 ≤ 31) (r2 : 0 ≤ x2 ∧ x2 ≤ 31) : qm_T (qe L xs vb) (d + 1) 57 [.ref 23, .int (qz x1), .int (qz x2)] (qw σ α κ ρ) (fun r w' => w' = qw σ α κ ρ ∧ ∃ v : Int, r = some (.int (qz v)) ∧ (0 ≤ v ∧ v ≤ 99) ∧ v = α 24 (x1 * 32 + x2 : Int).toNat) := by
  refine qr_start (d := d + 0) qv_e57 (Nat.le_of_ble_eq_true rfl) ?_
  show qr_W (qe L xs vb) (d + 0) qx_e57 _ (0, [(0, .ref 23), (1, .int (qz x1)), (2, .int (qz x2))], [], _, 0, 0)
  refine qr_aload_n 1 rfl rfl rfl ?_
  refine qr_get 4 rfl rfl rfl (by decide) rfl ?_
  refine qr_iload_n 5 rfl rfl rfl ?_
  refine qr_bipush 7 rfl (by decide) rfl ?_
  refine qr_imul 8 rfl rfl ?_
  refine qr_iload_n 9 rfl rfl rfl ?_
  refine qr_iadd 10 rfl rfl ?_
  refine qr_iaload 11 rfl rfl (by omega) (by decide) rfl ?_
  refine qr_topI (fun v1 hv1 => ?_)
  have hs2 : 0 ≤ v1 ∧ v1 ≤ 99 := by rw [hv1]; exact hI.2.1 24 _ (show _ < 1024 by omega)
  refine qr_retI rfl rfl (by decide) (by decide) ?_
  exact ⟨rfl, v1, rfl, by omega, by omega⟩

set_option maxHeartbeats 4000000 in
set_option maxRecDepth 20000 in
/-- OneRoof$Kinship.join -/
theorem sf_58_23x {L : Nat} {xs : Nat → Int} {vb : Bool} {d : Nat} {σ α : Nat → Nat → Int} {κ : Nat → Option Nat} {ρ : Nat} {x1 : Int} {x2 : Int} {x3 : Int} {P : Int → Int → Int → Prop} (hI : qI σ α κ ρ) (r1 : 0 ≤ x1 ∧ x1 ≤ 31) (r2 : 0 ≤ x2 ∧ x2 ≤ 31) (r3 : 0 ≤ x3 ∧ x3 ≤ 32) (p0 : ∀ x y : Int, (0 ≤ x ∧ x < 32) → (0 ≤ y ∧ y < 32) → P (qTb (α 24) x y) x y) (p1 : qCl P x1 x2) (p2 : 0 ≤ σ 23 1 ∧ σ 23 1 ≤ 60) : qm_T (qe L xs vb) (d + 2) 58 [.ref 23, .int (qz x1), .int (qz x2), .int (qz x3)] (qw σ α κ ρ) (fun r w' => ∃ σ' α', w' = qw σ' α' κ ρ ∧ qI σ' α' κ ρ ∧ qFr [(23, 1)] [24] σ α σ' α' ∧ σ' 23 1 = σ 23 1 + 1 ∧ r = none ∧ qJn P (α 24) (α' 24) x1 x2 x3 x3 0) := by
  refine qr_start (d := d + 1) qv_e58 (Nat.le_of_ble_eq_true rfl) ?_
  show qr_W (qe L xs vb) (d + 1) qx_e58 _ (0, [(0, .ref 23), (1, .int (qz x1)), (2, .int (qz x2)), (3, .int (qz x3))], [], _, 0, 0)
  have hF0 := qFr_rf [(23, 1)] [24] σ α
  have hz23_1 : (-2147483648) ≤ σ 23 1 ∧ σ 23 1 ≤ 2147483647 := hI.1 23 1
  refine qr_aload_n 1 rfl rfl rfl ?_
  refine qr_dup 2 rfl rfl rfl ?_
  refine qr_get 5 rfl rfl rfl (by decide) rfl ?_
  refine qr_iconst 6 rfl rfl ?_
  refine qr_iadd 7 rfl rfl ?_
  refine qr_put 10 rfl (by decide) rfl (Nat.le_of_ble_eq_true rfl) (Nat.le_of_ble_eq_true rfl) (Or.inl rfl) (qr_fitI rfl _) rfl ?_
  refine qy_wS (qw_s σ 23 1 ((σ 23 1) + 1)) rfl (fun σ1 e2 => ?_)
  have hI3 : qI σ1 α κ ρ := by rw [e2]; exact qI_s hI 23 1 rfl (show (-2147483648) ≤ ((σ 23 1) + 1) ∧ ((σ 23 1) + 1) ≤ 2147483647 by omega)
  have hF4 : qFr [(23, 1)] [24] σ α σ1 α := by rw [e2]; exact qFr_s hF0 23 1 _ (by decide)
  refine qr_iconst 11 rfl rfl ?_
  refine qr_istore _ 13 rfl (by decide) rfl rfl ?_
  have hL4877 : ∀ (n : Nat) (ls : qm_L) (u4870 : Int) (α4872 : Nat → Nat → Int), 32 - u4870 < (n : Int) → qm_get ls 0 = some (.ref 23) → qm_get ls 1 = some (.int (qz x1)) → qm_get ls 2 = some (.int (qz x2)) → qm_get ls 3 = some (.int (qz x3)) → qm_get ls 4 = some (.int (qz u4870)) → (0 ≤ u4870 ∧ u4870 ≤ 32) → qI σ1 α4872 κ ρ → qFr [(23, 1)] [24] σ α σ1 α4872 → qJn P (α 24) (α4872 24) x1 x2 x3 u4870 0 → qr_W (qe L xs vb) (d + 1) qx_e58 (fun r w' => ∃ σ' α', w' = qw σ' α' κ ρ ∧ qI σ' α' κ ρ ∧ qFr [(23, 1)] [24] σ α σ' α' ∧ σ' 23 1 = σ 23 1 + 1 ∧ r = none ∧ qJn P (α 24) (α' 24) x1 x2 x3 x3 0) (13, ls, [], qw σ1 α4872 κ ρ, 0, 0) := by
    intro n
    induction n with
    | zero => intro ls u4870 α4872 hm g4865 g4866 g4867 g4868 g4869 hf4875 hI4873 hF4874 hx4876; exact False.elim (by omega)
    | succ n ih4878 =>
      intro ls u4870 α4872 hm g4865 g4866 g4867 g4868 g4869 hf4875 hI4873 hF4874 hx4876
      refine qr_iload 15 rfl g4869 rfl ?_
      refine qr_iload_n 16 rfl g4868 rfl ?_
      refine qr_icmp_ge 105 19 rfl rfl rfl (by omega) (by omega) (fun h4879 => ?_) (fun h4879 => ?_)
      · skip
        refine qr_retV rfl rfl (by decide) (by decide) ?_
        exact ⟨_, _, rfl, hI4873, hF4874, (by have hw : σ1 23 1 = ((σ 23 1) + 1) := (congrFun (congrFun e2 23) 1).trans rfl; omega), rfl, (qJn_end hx4876 (by omega))⟩
      · skip
        refine qr_iconst 20 rfl rfl ?_
        refine qr_istore _ 22 rfl (by decide) rfl rfl ?_
        have hL5193 : ∀ (n : Nat) (ls : qm_L) (u5186 : Int) (α5188 : Nat → Nat → Int), 32 - u5186 < (n : Int) → qm_get ls 0 = some (.ref 23) → qm_get ls 1 = some (.int (qz x1)) → qm_get ls 2 = some (.int (qz x2)) → qm_get ls 3 = some (.int (qz x3)) → qm_get ls 4 = some (.int (qz u4870)) → qm_get ls 5 = some (.int (qz u5186)) → (0 ≤ u5186 ∧ u5186 ≤ 32) → qI σ1 α5188 κ ρ → qFr [(23, 1)] [24] σ α σ1 α5188 → qJn P (α 24) (α5188 24) x1 x2 x3 u4870 u5186 → qr_W (qe L xs vb) (d + 1) qx_e58 (fun r w' => ∃ σ' α', w' = qw σ' α' κ ρ ∧ qI σ' α' κ ρ ∧ qFr [(23, 1)] [24] σ α σ' α' ∧ σ' 23 1 = σ 23 1 + 1 ∧ r = none ∧ qJn P (α 24) (α' 24) x1 x2 x3 x3 0) (22, ls, [], qw σ1 α5188 κ ρ, 0, 0) := by
          intro n
          induction n with
          | zero => intro ls u5186 α5188 hm g5180 g5181 g5182 g5183 g5184 g5185 hf5191 hI5189 hF5190 hx5192; exact False.elim (by omega)
          | succ n ih5194 =>
            intro ls u5186 α5188 hm g5180 g5181 g5182 g5183 g5184 g5185 hf5191 hI5189 hF5190 hx5192
            refine qr_iload 24 rfl g5185 rfl ?_
            refine qr_iload_n 25 rfl g5183 rfl ?_
            refine qr_icmp_ge 99 28 rfl rfl rfl (by omega) (by omega) (fun h5195 => ?_) (fun h5195 => ?_)
            · skip
              refine qr_iinc _ 102 rfl g5184 (by decide) rfl rfl ?_
              refine qr_goto 13 rfl rfl ?_
              exact ih4878 _ (u4870 + 1) α5188 (by omega) (qm_gk g5180 (by decide) (Or.inl (by decide))) (qm_gk g5181 (by decide) (Or.inl (by decide))) (qm_gk g5182 (by decide) (Or.inl (by decide))) (qm_gk g5183 (by decide) (Or.inr rfl)) (qm_ge _ _ _) (by omega) hI5189 hF5190 (qJn_row hx5192 (by omega))
            · skip
              refine qr_aload_n 29 rfl g5180 rfl ?_
              refine qr_iload 31 rfl g5184 rfl ?_
              refine qr_iload_n 32 rfl g5181 rfl ?_
              refine qr_callN 35 rfl rfl rfl (sf_57_23x (d := d + 0) hI5189 (by omega) (by omega)) ?_
              rintro _ _ ⟨rfl, v5196, rfl, hv5196, hp5197⟩
              show qr_W (qe L xs vb) (d + 1) qx_e58 _ (35, _, [.int (qz v5196)], qw σ1 α5188 κ ρ, 0, 0)
              refine qr_aload_n 36 rfl g5180 rfl ?_
              refine qr_iload_n 37 rfl g5182 rfl ?_
              refine qr_iload 39 rfl g5185 rfl ?_
              refine qr_callN 42 rfl rfl rfl (sf_57_23x (d := d + 0) hI5189 (by omega) (by omega)) ?_
              rintro _ _ ⟨rfl, v5198, rfl, hv5198, hp5199⟩
              show qr_W (qe L xs vb) (d + 1) qx_e58 _ (42, _, [.int (qz v5198), .int (qz v5196)], qw σ1 α5188 κ ρ, 0, 0)
              refine qr_iadd 43 rfl rfl ?_
              refine qr_aload_n 44 rfl g5180 rfl ?_
              refine qr_iload 46 rfl g5184 rfl ?_
              refine qr_iload_n 47 rfl g5182 rfl ?_
              refine qr_callN 50 rfl rfl rfl (sf_57_23x (d := d + 0) hI5189 (by omega) (by omega)) ?_
              rintro _ _ ⟨rfl, v5200, rfl, hv5200, hp5201⟩
              show qr_W (qe L xs vb) (d + 1) qx_e58 _ (50, _, [.int (qz v5200), .int (qz (v5196 + v5198))], qw σ1 α5188 κ ρ, 0, 0)
              refine qr_aload_n 51 rfl g5180 rfl ?_
              refine qr_iload_n 52 rfl g5181 rfl ?_
              refine qr_iload 54 rfl g5185 rfl ?_
              refine qr_callN 57 rfl rfl rfl (sf_57_23x (d := d + 0) hI5189 (by omega) (by omega)) ?_
              rintro _ _ ⟨rfl, v5202, rfl, hv5202, hp5203⟩
              show qr_W (qe L xs vb) (d + 1) qx_e58 _ (57, _, [.int (qz v5202), .int (qz v5200), .int (qz (v5196 + v5198))], qw σ1 α5188 κ ρ, 0, 0)
              refine qr_iadd 58 rfl rfl ?_
              refine qr_callN 61 rfl rfl rfl (sf_12 (d := d + 0) hI5189 (by omega) (by omega)) ?_
              rintro _ _ ⟨rfl, v5204, rfl, hv5204, hp5205⟩
              show qr_W (qe L xs vb) (d + 1) qx_e58 _ (61, _, [.int (qz v5204)], qw σ1 α5188 κ ρ, 0, 0)
              refine qr_iconst 62 rfl rfl ?_
              refine qr_iadd 63 rfl rfl ?_
              refine qr_istore _ 65 rfl (by decide) rfl rfl ?_
              refine qr_iload 67 rfl (qm_ge _ _ _) rfl ?_
              refine qr_aload_n 68 rfl (qm_gk g5180 (by decide) (Or.inl (by decide))) rfl ?_
              refine qr_iload 70 rfl (qm_gk g5184 (by decide) (Or.inl (by decide))) rfl ?_
              refine qr_iload 72 rfl (qm_gk g5185 (by decide) (Or.inr rfl)) rfl ?_
              refine qr_callN 75 rfl rfl rfl (sf_57_23x (d := d + 0) hI5189 (by omega) (by omega)) ?_
              rintro _ _ ⟨rfl, v5206, rfl, hv5206, hp5207⟩
              show qr_W (qe L xs vb) (d + 1) qx_e58 _ (75, _, [.int (qz v5206), .int (qz (v5204 + 1))], qw σ1 α5188 κ ρ, 0, 0)
              refine qr_icmp_ge 93 78 rfl rfl rfl (by omega) (by omega) (fun h5208 => ?_) (fun h5208 => ?_)
              · skip
                refine qr_iinc _ 96 rfl (qm_gk g5185 (by decide) (Or.inr rfl)) (by decide) rfl rfl ?_
                refine qr_goto 22 rfl rfl ?_
                exact ih5194 _ (u5186 + 1) α5188 (by omega) (qm_gk (qm_gk g5180 (by decide) (Or.inl (by decide))) (by decide) (Or.inl (by decide))) (qm_gk (qm_gk g5181 (by decide) (Or.inl (by decide))) (by decide) (Or.inl (by decide))) (qm_gk (qm_gk g5182 (by decide) (Or.inl (by decide))) (by decide) (Or.inl (by decide))) (qm_gk (qm_gk g5183 (by decide) (Or.inl (by decide))) (by decide) (Or.inl (by decide))) (qm_gk (qm_gk g5184 (by decide) (Or.inl (by decide))) (by decide) (Or.inr rfl)) (qm_ge _ _ _) (by omega) hI5189 hF5190 (qJn_skip hx5192 (by omega) (by omega) (by omega) (by omega) (by omega) hp5197 hp5199 hp5201 hp5203 hp5207 (m := v5204) (by omega) (by omega))
              · skip
                refine qr_aload_n 79 rfl (qm_gk g5180 (by decide) (Or.inl (by decide))) rfl ?_
                refine qr_get 82 rfl rfl rfl (by decide) rfl ?_
                refine qr_iload 84 rfl (qm_gk g5184 (by decide) (Or.inl (by decide))) rfl ?_
                refine qr_bipush 86 rfl (by decide) rfl ?_
                refine qr_imul 87 rfl rfl ?_
                refine qr_iload 89 rfl (qm_gk g5185 (by decide) (Or.inr rfl)) rfl ?_
                refine qr_iadd 90 rfl rfl ?_
                refine qr_iload 92 rfl (qm_ge _ _ _) rfl ?_
                refine qr_iastore 93 rfl (by decide) rfl (by omega) (by decide) rfl ?_
                refine qy_wA (qw_r α5188 24 (qzu (α5188 24) (((u4870 * 32) + u5186) : Int).toNat (v5204 + 1))) rfl (fun α5209 e5210 => ?_)
                have hI5211 : qI σ1 α5209 κ ρ := by rw [e5210]; exact qI_r hI5189 24 _ rfl (show 0 ≤ (v5204 + 1) ∧ (v5204 + 1) ≤ 99 by omega)
                have hF5212 : qFr [(23, 1)] [24] σ α σ1 α5209 := by rw [e5210]; exact qFr_r hF5190 24 _ (by decide)
                refine qr_iinc _ 96 rfl (qm_gk g5185 (by decide) (Or.inr rfl)) (by decide) rfl rfl ?_
                refine qr_goto 22 rfl rfl ?_
                exact ih5194 _ (u5186 + 1) α5209 (by omega) (qm_gk (qm_gk g5180 (by decide) (Or.inl (by decide))) (by decide) (Or.inl (by decide))) (qm_gk (qm_gk g5181 (by decide) (Or.inl (by decide))) (by decide) (Or.inl (by decide))) (qm_gk (qm_gk g5182 (by decide) (Or.inl (by decide))) (by decide) (Or.inl (by decide))) (qm_gk (qm_gk g5183 (by decide) (Or.inl (by decide))) (by decide) (Or.inl (by decide))) (qm_gk (qm_gk g5184 (by decide) (Or.inl (by decide))) (by decide) (Or.inr rfl)) (qm_ge _ _ _) (by omega) hI5211 hF5212 (by rw [(congrFun e5210 24).trans qw_r_eq]; exact qJn_set hx5192 p1 (by omega) (by omega) (by omega) (by omega) (by omega) rfl hp5197 hp5199 hp5201 hp5203 hp5207 (by omega) (by omega))
        exact hL5193 ((32 - 0 + 1 : Int)).toNat _ 0 α4872 (by omega) (qm_gk g4865 (by decide) (Or.inl (by decide))) (qm_gk g4866 (by decide) (Or.inl (by decide))) (qm_gk g4867 (by decide) (Or.inl (by decide))) (qm_gk g4868 (by decide) (Or.inl (by decide))) (qm_gk g4869 (by decide) (Or.inr rfl)) (qm_ge _ _ _) (by omega) hI4873 hF4874 hx4876
  exact hL4877 ((32 - 0 + 1 : Int)).toNat _ 0 α (by omega) rfl rfl rfl rfl rfl (by omega) hI3 hF4 (qJn_0 p0)

set_option maxHeartbeats 4000000 in
set_option maxRecDepth 20000 in
/-- OneRoof.kin -/
theorem sf_56_16x {L : Nat} {xs : Nat → Int} {vb : Bool} {d : Nat} {σ α : Nat → Nat → Int} {κ : Nat → Option Nat} {ρ : Nat} {x1 : Int} {x2 : Int} {P : Int → Int → Int → Prop} (hI : qI σ α κ ρ) (r1 : (-2147483648) ≤ x1 ∧ x1 ≤ 2147483647) (r2 : (-2147483648) ≤ x2 ∧ x2 ≤ 2147483647) (p0 : ∀ x y : Int, (0 ≤ x ∧ x < 32) → (0 ≤ y ∧ y < 32) → P (qTb (α 24) x y) x y) (p1 : qCl P x1 x2) (p2 : 0 ≤ σ 23 1 ∧ σ 23 1 ≤ 60) : qm_T (qe L xs vb) (d + 3) 56 [.ref 16, .int (qz x1), .int (qz x2)] (qw σ α κ ρ) (fun r w' => ∃ σ' α', w' = qw σ' α' κ ρ ∧ qI σ' α' κ ρ ∧ qFr [(23, 1)] [24] σ α σ' α' ∧ ∃ v : Int, r = some (.int (qz v)) ∧ ((-2147483648) ≤ v ∧ v ≤ 2147483647) ∧ (((v = -1 ∧ ¬ ((0 ≤ x1 ∧ x1 < σ 17 6 ∧ 0 ≤ x2 ∧ x2 < σ 17 6 ∧ ¬ x1 = x2) ∧ ¬ α 24 (x1 * 32 + x2 : Int).toNat = 1) ∧ σ' 23 1 = σ 23 1) ∧ α' 24 = α 24) ∨ ((v = -3 ∧ ((0 ≤ x1 ∧ x1 < σ 17 6 ∧ 0 ≤ x2 ∧ x2 < σ 17 6 ∧ ¬ x1 = x2) ∧ ¬ α 24 (x1 * 32 + x2 : Int).toNat = 1) ∧ 60 ≤ σ 23 1 ∧ σ' 23 1 = σ 23 1) ∧ α' 24 = α 24) ∨ (((v = σ 23 1 + 1 ∧ ((0 ≤ x1 ∧ x1 < σ 17 6 ∧ 0 ≤ x2 ∧ x2 < σ 17 6 ∧ ¬ x1 = x2) ∧ ¬ α 24 (x1 * 32 + x2 : Int).toNat = 1) ∧ σ 23 1 < 60 ∧ σ' 23 1 = σ 23 1 + 1) ∧ qJn P (α 24) (α' 24) x1 x2 (σ 17 6) (σ 17 6) 0)))) := by
  refine qr_start (d := d + 2) qv_e56 (Nat.le_of_ble_eq_true rfl) ?_
  show qr_W (qe L xs vb) (d + 2) qx_e56 _ (0, [(0, .ref 16), (1, .int (qz x1)), (2, .int (qz x2))], [], _, 0, 0)
  have hF0 := qFr_rf [(23, 1)] [24] σ α
  have hz17_6 : 0 ≤ σ 17 6 ∧ σ 17 6 ≤ 32 := hI.1 17 6
  have hz23_1 : (-2147483648) ≤ σ 23 1 ∧ σ 23 1 ≤ 2147483647 := hI.1 23 1
  refine qr_aload_n 1 rfl rfl rfl ?_
  refine qr_get 4 rfl rfl rfl (by decide) rfl ?_
  refine qr_iload_n 5 rfl rfl rfl ?_
  refine qr_callN 8 rfl rfl rfl (sf_40_17 (d := d + 1) hI (by omega)) ?_
  have hs3 : 0 ≤ σ 17 6 ∧ σ 17 6 ≤ 32 := hI.1 17 6
  rintro _ _ ⟨rfl, v1, rfl, hv1, hp2⟩
  show qr_W (qe L xs vb) (d + 2) qx_e56 _ (8, _, [.int (qz v1)], qw σ α κ ρ, 0, 0)
  refine qr_if_eq 27 11 rfl rfl rfl (by omega) (fun h4 => ?_) (fun h4 => ?_)
  · skip
    refine qr_iconst 28 rfl rfl ?_
    refine qr_retI rfl rfl (by decide) (by decide) ?_
    have hw5 : σ 23 1 = (σ 23 1) := rfl
    exact ⟨_, _, rfl, hI, hF0, (-1), rfl, by omega, (Or.inl ⟨by omega, rfl⟩)⟩
  · skip
    refine qr_aload_n 12 rfl rfl rfl ?_
    refine qr_get 15 rfl rfl rfl (by decide) rfl ?_
    refine qr_iload_n 16 rfl rfl rfl ?_
    refine qr_callN 19 rfl rfl rfl (sf_40_17 (d := d + 1) hI (by omega)) ?_
    have hs8 : 0 ≤ σ 17 6 ∧ σ 17 6 ≤ 32 := hI.1 17 6
    rintro _ _ ⟨rfl, v6, rfl, hv6, hp7⟩
    show qr_W (qe L xs vb) (d + 2) qx_e56 _ (19, _, [.int (qz v6)], qw σ α κ ρ, 0, 0)
    refine qr_if_eq 27 22 rfl rfl rfl (by omega) (fun h9 => ?_) (fun h9 => ?_)
    · skip
      refine qr_iconst 28 rfl rfl ?_
      refine qr_retI rfl rfl (by decide) (by decide) ?_
      have hw10 : σ 23 1 = (σ 23 1) := rfl
      exact ⟨_, _, rfl, hI, hF0, (-1), rfl, by omega, (Or.inl ⟨by omega, rfl⟩)⟩
    · skip
      refine qr_iload_n 23 rfl rfl rfl ?_
      refine qr_iload_n 24 rfl rfl rfl ?_
      refine qr_icmp_ne 29 27 rfl rfl rfl (by omega) (by omega) (fun h11 => ?_) (fun h11 => ?_)
      · skip
        refine qr_aload_n 30 rfl rfl rfl ?_
        refine qr_get 33 rfl rfl rfl (by decide) rfl ?_
        refine qr_iload_n 34 rfl rfl rfl ?_
        refine qr_iload_n 35 rfl rfl rfl ?_
        refine qr_callN 38 rfl rfl rfl (sf_57_23x (d := d + 1) hI (by omega) (by omega)) ?_
        rintro _ _ ⟨rfl, v12, rfl, hv12, hp13⟩
        show qr_W (qe L xs vb) (d + 2) qx_e56 _ (38, _, [.int (qz v12)], qw σ α κ ρ, 0, 0)
        refine qr_iconst 39 rfl rfl ?_
        refine qr_icmp_ne 44 42 rfl rfl rfl (by omega) (by omega) (fun h14 => ?_) (fun h14 => ?_)
        · skip
          refine qr_aload_n 45 rfl rfl rfl ?_
          refine qr_get 48 rfl rfl rfl (by decide) rfl ?_
          refine qr_get 51 rfl rfl rfl (by decide) rfl ?_
          refine qr_bipush 53 rfl (by decide) rfl ?_
          refine qr_icmp_lt 59 56 rfl rfl rfl (by omega) (by omega) (fun h15 => ?_) (fun h15 => ?_)
          · skip
            refine qr_aload_n 60 rfl rfl rfl ?_
            refine qr_get 63 rfl rfl rfl (by decide) rfl ?_
            refine qr_iload_n 64 rfl rfl rfl ?_
            refine qr_iload_n 65 rfl rfl rfl ?_
            refine qr_aload_n 66 rfl rfl rfl ?_
            refine qr_get 69 rfl rfl rfl (by decide) rfl ?_
            refine qr_get 72 rfl rfl rfl (by decide) rfl ?_
            have hs16 : (-2147483648) ≤ σ 23 1 ∧ σ 23 1 ≤ 2147483647 := hI.1 23 1
            refine qr_callN 75 rfl rfl rfl (sf_58_23x (d := d + 0) hI (by omega) (by omega) (by omega) p0 p1 (by omega)) ?_
            rintro _ _ ⟨σ19, α20, rfl, hI21, hG22, hw18, rfl, hx17⟩
            have hF23 : qFr [(23, 1)] [24] σ α σ19 α20 := qFr_t hF0 hG22 (by decide) (by decide)
            have hs24 : (-2147483648) ≤ σ19 23 1 ∧ σ19 23 1 ≤ 2147483647 := hI21.1 23 1
            show qr_W (qe L xs vb) (d + 2) qx_e56 _ (75, _, [], qw σ19 α20 κ ρ, 0, 0)
            refine qr_aload_n 76 rfl rfl rfl ?_
            refine qr_get 79 rfl rfl rfl (by decide) rfl ?_
            refine qr_get 82 rfl rfl rfl (by decide) rfl ?_
            refine qr_retI rfl rfl (by decide) (by decide) ?_
            have hw25 : σ19 23 1 = (σ19 23 1) := rfl
            exact ⟨_, _, rfl, hI21, hF23, (σ19 23 1), rfl, by omega, (Or.inr (Or.inr (⟨by omega, hx17⟩)))⟩
          · skip
            refine qr_bipush 58 rfl (by decide) rfl ?_
            refine qr_retI rfl rfl (by decide) (by decide) ?_
            have hw26 : σ 23 1 = (σ 23 1) := rfl
            exact ⟨_, _, rfl, hI, hF0, (-3), rfl, by omega, (Or.inr (Or.inl ⟨by omega, rfl⟩))⟩
        · skip
          refine qr_iconst 43 rfl rfl ?_
          refine qr_retI rfl rfl (by decide) (by decide) ?_
          have hw27 : σ 23 1 = (σ 23 1) := rfl
          exact ⟨_, _, rfl, hI, hF0, (-1), rfl, by omega, (Or.inl ⟨by omega, rfl⟩)⟩
      · skip
        refine qr_iconst 28 rfl rfl ?_
        refine qr_retI rfl rfl (by decide) (by decide) ?_
        have hw28 : σ 23 1 = (σ 23 1) := rfl
        exact ⟨_, _, rfl, hI, hF0, (-1), rfl, by omega, (Or.inl ⟨by omega, rfl⟩)⟩

set_option maxHeartbeats 4000000 in
set_option maxRecDepth 20000 in
/-- OneRoofModel.areKin -/
theorem sf_185_86x {L : Nat} {xs : Nat → Int} {vb : Bool} {d : Nat} {σ α : Nat → Nat → Int} {κ : Nat → Option Nat} {ρ : Nat} {x1 : Int} {x2 : Int} (hI : qI σ α κ ρ) (r1 : (-2147483648) ≤ x1 ∧ x1 ≤ 2147483647) (r2 : (-2147483648) ≤ x2 ∧ x2 ≤ 2147483647) : qm_T (qe L xs vb) (d + 1) 185 [.ref 86, .int (qz x1), .int (qz x2)] (qw σ α κ ρ) (fun r w' => w' = qw σ α κ ρ ∧ ∃ v : Int, r = some (.int (qz v)) ∧ (0 ≤ v ∧ v ≤ 1) ∧ (v = 1 ↔ qAj (α 94) (α 95) (σ 86 11) x1 x2)) := by
  refine qr_start (d := d + 0) qv_e185 (Nat.le_of_ble_eq_true rfl) ?_
  show qr_W (qe L xs vb) (d + 0) qx_e185 _ (0, [(0, .ref 86), (1, .int (qz x1)), (2, .int (qz x2))], [], _, 0, 0)
  refine qr_iconst 1 rfl rfl ?_
  refine qr_istore_n _ 2 rfl (by decide) rfl rfl ?_
  have hL433 : ∀ (n : Nat) (ls : qm_L) (u430 : Int), 61 - u430 < (n : Int) → qm_get ls 0 = some (.ref 86) → qm_get ls 1 = some (.int (qz x1)) → qm_get ls 2 = some (.int (qz x2)) → qm_get ls 3 = some (.int (qz u430)) → (0 ≤ u430 ∧ u430 ≤ 61) → (∀ k : Nat, (k : Int) < u430 → ¬ ((α 94 k = x1 ∧ α 95 k = x2) ∨ (α 94 k = x2 ∧ α 95 k = x1))) → qr_W (qe L xs vb) (d + 0) qx_e185 (fun r w' => w' = qw σ α κ ρ ∧ ∃ v : Int, r = some (.int (qz v)) ∧ (0 ≤ v ∧ v ≤ 1) ∧ (v = 1 ↔ qAj (α 94) (α 95) (σ 86 11) x1 x2)) (2, ls, [], qw σ α κ ρ, 0, 0) := by
    intro n
    induction n with
    | zero => intro ls u430 hm g426 g427 g428 g429 hf431 hx432; exact False.elim (by omega)
    | succ n ih434 =>
      intro ls u430 hm g426 g427 g428 g429 hf431 hx432
      refine qr_iload_n 3 rfl g429 rfl ?_
      refine qr_aload_n 4 rfl g426 rfl ?_
      refine qr_get 7 rfl rfl rfl (by decide) rfl ?_
      have hs435 : 0 ≤ σ 86 11 ∧ σ 86 11 ≤ 61 := hI.1 86 11
      refine qr_icmp_ge 58 10 rfl rfl rfl (by omega) (by omega) (fun h436 => ?_) (fun h436 => ?_)
      · skip
        refine qr_iconst 59 rfl rfl ?_
        refine qr_retZ rfl rfl (by omega) (by decide) (by decide) ?_
        exact ⟨rfl, 0, rfl, by omega, ⟨fun h => absurd h (by decide), fun h => by obtain ⟨k, h1, h2⟩ := h; exact absurd h2 (hx432 k (by omega))⟩⟩
      · skip
        refine qr_aload_n 11 rfl g426 rfl ?_
        refine qr_get 14 rfl rfl rfl (by decide) rfl ?_
        refine qr_iload_n 15 rfl g429 rfl ?_
        refine qr_iaload 16 rfl rfl (by omega) (by decide) rfl ?_
        refine qr_topI (fun v437 hv437 => ?_)
        have hs438 : 0 ≤ v437 ∧ v437 ≤ 31 := by rw [hv437]; exact hI.2.1 94 _ (show _ < 61 by omega)
        refine qr_iload_n 17 rfl g427 rfl ?_
        refine qr_icmp_ne 30 20 rfl rfl rfl (by omega) (by omega) (fun h439 => ?_) (fun h439 => ?_)
        · skip
          refine qr_aload_n 31 rfl g426 rfl ?_
          refine qr_get 34 rfl rfl rfl (by decide) rfl ?_
          refine qr_iload_n 35 rfl g429 rfl ?_
          refine qr_iaload 36 rfl rfl (by omega) (by decide) rfl ?_
          refine qr_topI (fun v440 hv440 => ?_)
          have hs441 : 0 ≤ v440 ∧ v440 ≤ 31 := by rw [hv440]; exact hI.2.1 94 _ (show _ < 61 by omega)
          refine qr_iload_n 37 rfl g428 rfl ?_
          refine qr_icmp_ne 52 40 rfl rfl rfl (by omega) (by omega) (fun h442 => ?_) (fun h442 => ?_)
          · skip
            refine qr_iinc _ 55 rfl g429 (by decide) rfl rfl ?_
            refine qr_goto 2 rfl rfl ?_
            exact ih434 _ (u430 + 1) (by omega) (qm_gk g426 (by decide) (Or.inl (by decide))) (qm_gk g427 (by decide) (Or.inl (by decide))) (qm_gk g428 (by decide) (Or.inr rfl)) (qm_ge _ _ _) (by omega) (fun k hk => by by_cases e : k = (u430 : Int).toNat; (rw [e]; omega); (exact hx432 k (by omega)))
          · skip
            refine qr_aload_n 41 rfl g426 rfl ?_
            refine qr_get 44 rfl rfl rfl (by decide) rfl ?_
            refine qr_iload_n 45 rfl g429 rfl ?_
            refine qr_iaload 46 rfl rfl (by omega) (by decide) rfl ?_
            refine qr_topI (fun v443 hv443 => ?_)
            have hs444 : 0 ≤ v443 ∧ v443 ≤ 31 := by rw [hv443]; exact hI.2.1 95 _ (show _ < 61 by omega)
            refine qr_iload_n 47 rfl g427 rfl ?_
            refine qr_icmp_ne 52 50 rfl rfl rfl (by omega) (by omega) (fun h445 => ?_) (fun h445 => ?_)
            · skip
              refine qr_iinc _ 55 rfl g429 (by decide) rfl rfl ?_
              refine qr_goto 2 rfl rfl ?_
              exact ih434 _ (u430 + 1) (by omega) (qm_gk g426 (by decide) (Or.inl (by decide))) (qm_gk g427 (by decide) (Or.inl (by decide))) (qm_gk g428 (by decide) (Or.inr rfl)) (qm_ge _ _ _) (by omega) (fun k hk => by by_cases e : k = (u430 : Int).toNat; (rw [e]; omega); (exact hx432 k (by omega)))
            · skip
              refine qr_iconst 51 rfl rfl ?_
              refine qr_retZ rfl rfl (by omega) (by decide) (by decide) ?_
              exact ⟨rfl, 1, rfl, by omega, ⟨fun _ => ⟨(u430 : Int).toNat, by omega, by omega⟩, fun _ => rfl⟩⟩
        · skip
          refine qr_aload_n 21 rfl g426 rfl ?_
          refine qr_get 24 rfl rfl rfl (by decide) rfl ?_
          refine qr_iload_n 25 rfl g429 rfl ?_
          refine qr_iaload 26 rfl rfl (by omega) (by decide) rfl ?_
          refine qr_topI (fun v446 hv446 => ?_)
          have hs447 : 0 ≤ v446 ∧ v446 ≤ 31 := by rw [hv446]; exact hI.2.1 95 _ (show _ < 61 by omega)
          refine qr_iload_n 27 rfl g428 rfl ?_
          refine qr_icmp_eq 50 30 rfl rfl rfl (by omega) (by omega) (fun h448 => ?_) (fun h448 => ?_)
          · skip
            refine qr_iconst 51 rfl rfl ?_
            refine qr_retZ rfl rfl (by omega) (by decide) (by decide) ?_
            exact ⟨rfl, 1, rfl, by omega, ⟨fun _ => ⟨(u430 : Int).toNat, by omega, by omega⟩, fun _ => rfl⟩⟩
          · skip
            refine qr_aload_n 31 rfl g426 rfl ?_
            refine qr_get 34 rfl rfl rfl (by decide) rfl ?_
            refine qr_iload_n 35 rfl g429 rfl ?_
            refine qr_iaload 36 rfl rfl (by omega) (by decide) rfl ?_
            refine qr_topI (fun v449 hv449 => ?_)
            have hs450 : 0 ≤ v449 ∧ v449 ≤ 31 := by rw [hv449]; exact hI.2.1 94 _ (show _ < 61 by omega)
            refine qr_iload_n 37 rfl g428 rfl ?_
            refine qr_icmp_ne 52 40 rfl rfl rfl (by omega) (by omega) (fun h451 => ?_) (fun h451 => ?_)
            · skip
              refine qr_iinc _ 55 rfl g429 (by decide) rfl rfl ?_
              refine qr_goto 2 rfl rfl ?_
              exact ih434 _ (u430 + 1) (by omega) (qm_gk g426 (by decide) (Or.inl (by decide))) (qm_gk g427 (by decide) (Or.inl (by decide))) (qm_gk g428 (by decide) (Or.inr rfl)) (qm_ge _ _ _) (by omega) (fun k hk => by by_cases e : k = (u430 : Int).toNat; (rw [e]; omega); (exact hx432 k (by omega)))
            · skip
              refine qr_aload_n 41 rfl g426 rfl ?_
              refine qr_get 44 rfl rfl rfl (by decide) rfl ?_
              refine qr_iload_n 45 rfl g429 rfl ?_
              refine qr_iaload 46 rfl rfl (by omega) (by decide) rfl ?_
              refine qr_topI (fun v452 hv452 => ?_)
              have hs453 : 0 ≤ v452 ∧ v452 ≤ 31 := by rw [hv452]; exact hI.2.1 95 _ (show _ < 61 by omega)
              refine qr_iload_n 47 rfl g427 rfl ?_
              refine qr_icmp_ne 52 50 rfl rfl rfl (by omega) (by omega) (fun h454 => ?_) (fun h454 => ?_)
              · skip
                refine qr_iinc _ 55 rfl g429 (by decide) rfl rfl ?_
                refine qr_goto 2 rfl rfl ?_
                exact ih434 _ (u430 + 1) (by omega) (qm_gk g426 (by decide) (Or.inl (by decide))) (qm_gk g427 (by decide) (Or.inl (by decide))) (qm_gk g428 (by decide) (Or.inr rfl)) (qm_ge _ _ _) (by omega) (fun k hk => by by_cases e : k = (u430 : Int).toNat; (rw [e]; omega); (exact hx432 k (by omega)))
              · skip
                refine qr_iconst 51 rfl rfl ?_
                refine qr_retZ rfl rfl (by omega) (by decide) (by decide) ?_
                exact ⟨rfl, 1, rfl, by omega, ⟨fun _ => ⟨(u430 : Int).toNat, by omega, by omega⟩, fun _ => rfl⟩⟩
  exact hL433 ((61 - 0 + 1 : Int)).toNat _ 0 (by omega) rfl rfl rfl rfl (by omega) (fun k hk => by omega)

set_option maxHeartbeats 4000000 in
set_option maxRecDepth 20000 in
/-- OneRoofModel.kin -/
theorem sf_184_86x {L : Nat} {xs : Nat → Int} {vb : Bool} {d : Nat} {σ α : Nat → Nat → Int} {κ : Nat → Option Nat} {ρ : Nat} {x1 : Int} {x2 : Int} (hI : qI σ α κ ρ) (r1 : (-2147483648) ≤ x1 ∧ x1 ≤ 2147483647) (r2 : (-2147483648) ≤ x2 ∧ x2 ≤ 2147483647) (p0 : σ 86 11 ≤ 60) : qm_T (qe L xs vb) (d + 3) 184 [.ref 86, .int (qz x1), .int (qz x2)] (qw σ α κ ρ) (fun r w' => ∃ σ' α', w' = qw σ' α' κ ρ ∧ qI σ' α' κ ρ ∧ qFr [(86, 11), (86, 15)] [94, 95] σ α σ' α' ∧ ∃ v : Int, r = some (.int (qz v)) ∧ ((-2147483648) ≤ v ∧ v ≤ 2147483647) ∧ ((((v = -1 ∧ σ' 86 11 = σ 86 11) ∧ ((0 ≤ x1 ∧ x1 < σ 86 6 ∧ 0 ≤ x2 ∧ x2 < σ 86 6 ∧ ¬ x1 = x2) → qAj (α 94) (α 95) (σ 86 11) x1 x2)) ∧ α' 94 = α 94 ∧ α' 95 = α 95) ∨ (((v = -3 ∧ (0 ≤ x1 ∧ x1 < σ 86 6 ∧ 0 ≤ x2 ∧ x2 < σ 86 6 ∧ ¬ x1 = x2) ∧ 60 ≤ σ 86 11 ∧ σ' 86 11 = σ 86 11) ∧ ¬ qAj (α 94) (α 95) (σ 86 11) x1 x2) ∧ α' 94 = α 94 ∧ α' 95 = α 95) ∨ (((v = σ 86 11 + 1 ∧ (0 ≤ x1 ∧ x1 < σ 86 6 ∧ 0 ≤ x2 ∧ x2 < σ 86 6 ∧ ¬ x1 = x2) ∧ σ 86 11 < 60 ∧ σ' 86 11 = σ 86 11 + 1 ∧ σ' 86 15 = 0) ∧ ¬ qAj (α 94) (α 95) (σ 86 11) x1 x2) ∧ α' 94 = qzu (α 94) (v - 1 : Int).toNat (x1) ∧ α' 95 = qzu (α 95) (v - 1 : Int).toNat (x2)))) := by
  refine qr_start (d := d + 2) qv_e184 (Nat.le_of_ble_eq_true rfl) ?_
  show qr_W (qe L xs vb) (d + 2) qx_e184 _ (0, [(0, .ref 86), (1, .int (qz x1)), (2, .int (qz x2))], [], _, 0, 0)
  have hF0 := qFr_rf [(86, 11), (86, 15)] [94, 95] σ α
  have hz86_11 : 0 ≤ σ 86 11 ∧ σ 86 11 ≤ 61 := hI.1 86 11
  have hz86_6 : 0 ≤ σ 86 6 ∧ σ 86 6 ≤ 32 := hI.1 86 6
  refine qr_aload_n 1 rfl rfl rfl ?_
  refine qr_iload_n 2 rfl rfl rfl ?_
  refine qr_callN 5 rfl rfl rfl (sf_180_86 (d := d + 0) hI (by omega)) ?_
  have hs3 : 0 ≤ σ 86 6 ∧ σ 86 6 ≤ 32 := hI.1 86 6
  rintro _ _ ⟨rfl, v1, rfl, hv1, hp2⟩
  show qr_W (qe L xs vb) (d + 2) qx_e184 _ (5, _, [.int (qz v1)], qw σ α κ ρ, 0, 0)
  refine qr_if_eq 30 8 rfl rfl rfl (by omega) (fun h4 => ?_) (fun h4 => ?_)
  · skip
    refine qr_iconst 31 rfl rfl ?_
    refine qr_retI rfl rfl (by decide) (by decide) ?_
    have hw5 : σ 86 11 = (σ 86 11) := rfl
    exact ⟨_, _, rfl, hI, hF0, (-1), rfl, by omega, (Or.inl ⟨⟨by omega, fun h => False.elim (by omega)⟩, rfl, rfl⟩)⟩
  · skip
    refine qr_aload_n 9 rfl rfl rfl ?_
    refine qr_iload_n 10 rfl rfl rfl ?_
    refine qr_callN 13 rfl rfl rfl (sf_180_86 (d := d + 0) hI (by omega)) ?_
    have hs8 : 0 ≤ σ 86 6 ∧ σ 86 6 ≤ 32 := hI.1 86 6
    rintro _ _ ⟨rfl, v6, rfl, hv6, hp7⟩
    show qr_W (qe L xs vb) (d + 2) qx_e184 _ (13, _, [.int (qz v6)], qw σ α κ ρ, 0, 0)
    refine qr_if_eq 30 16 rfl rfl rfl (by omega) (fun h9 => ?_) (fun h9 => ?_)
    · skip
      refine qr_iconst 31 rfl rfl ?_
      refine qr_retI rfl rfl (by decide) (by decide) ?_
      have hw10 : σ 86 11 = (σ 86 11) := rfl
      exact ⟨_, _, rfl, hI, hF0, (-1), rfl, by omega, (Or.inl ⟨⟨by omega, fun h => False.elim (by omega)⟩, rfl, rfl⟩)⟩
    · skip
      refine qr_iload_n 17 rfl rfl rfl ?_
      refine qr_iload_n 18 rfl rfl rfl ?_
      refine qr_icmp_eq 30 21 rfl rfl rfl (by omega) (by omega) (fun h11 => ?_) (fun h11 => ?_)
      · skip
        refine qr_iconst 31 rfl rfl ?_
        refine qr_retI rfl rfl (by decide) (by decide) ?_
        have hw12 : σ 86 11 = (σ 86 11) := rfl
        exact ⟨_, _, rfl, hI, hF0, (-1), rfl, by omega, (Or.inl ⟨⟨by omega, fun h => False.elim (by omega)⟩, rfl, rfl⟩)⟩
      · skip
        refine qr_aload_n 22 rfl rfl rfl ?_
        refine qr_iload_n 23 rfl rfl rfl ?_
        refine qr_iload_n 24 rfl rfl rfl ?_
        refine qr_callN 27 rfl rfl rfl (sf_185_86x (d := d + 1) hI (by omega) (by omega)) ?_
        rintro _ _ ⟨rfl, v13, rfl, hv13, hx14⟩
        show qr_W (qe L xs vb) (d + 2) qx_e184 _ (27, _, [.int (qz v13)], qw σ α κ ρ, 0, 0)
        refine qr_if_eq 32 30 rfl rfl rfl (by omega) (fun h15 => ?_) (fun h15 => ?_)
        · skip
          refine qr_aload_n 33 rfl rfl rfl ?_
          refine qr_get 36 rfl rfl rfl (by decide) rfl ?_
          refine qr_bipush 38 rfl (by decide) rfl ?_
          refine qr_icmp_ne 44 41 rfl rfl rfl (by omega) (by omega) (fun h16 => ?_) (fun h16 => ?_)
          · skip
            refine qr_aload_n 45 rfl rfl rfl ?_
            refine qr_get 48 rfl rfl rfl (by decide) rfl ?_
            refine qr_aload_n 49 rfl rfl rfl ?_
            refine qr_get 52 rfl rfl rfl (by decide) rfl ?_
            refine qr_iload_n 53 rfl rfl rfl ?_
            refine qr_iastore 54 rfl (by decide) rfl (by omega) (by decide) rfl ?_
            refine qy_wA (qw_r α 94 (qzu (α 94) ((σ 86 11) : Int).toNat x1)) rfl (fun α17 e18 => ?_)
            have hI19 : qI σ α17 κ ρ := by rw [e18]; exact qI_r94 hI _ (show 0 ≤ x1 ∧ x1 ≤ 31 by omega) (by omega)
            have hF20 : qFr [(86, 11), (86, 15)] [94, 95] σ α σ α17 := by rw [e18]; exact qFr_r hF0 94 _ (by decide)
            refine qr_aload_n 55 rfl rfl rfl ?_
            refine qr_get 58 rfl rfl rfl (by decide) rfl ?_
            refine qr_aload_n 59 rfl rfl rfl ?_
            refine qr_get 62 rfl rfl rfl (by decide) rfl ?_
            refine qr_iload_n 63 rfl rfl rfl ?_
            refine qr_iastore 64 rfl (by decide) rfl (by omega) (by decide) rfl ?_
            refine qy_wA (qw_r α17 95 (qzu (α17 95) ((σ 86 11) : Int).toNat x2)) rfl (fun α21 e22 => ?_)
            have hI23 : qI σ α21 κ ρ := by rw [e22]; exact qI_r95 hI19 _ (show 0 ≤ x2 ∧ x2 ≤ 31 by omega) (by omega)
            have hF24 : qFr [(86, 11), (86, 15)] [94, 95] σ α σ α21 := by rw [e22]; exact qFr_r hF20 95 _ (by decide)
            refine qr_aload_n 65 rfl rfl rfl ?_
            refine qr_iconst 66 rfl rfl ?_
            refine qr_put 69 rfl (by decide) rfl (Nat.le_of_ble_eq_true rfl) (Nat.le_of_ble_eq_true rfl) (Or.inl rfl) (qr_fitZ rfl (by omega)) rfl ?_
            refine qy_wS (qw_s σ 86 15 0) rfl (fun σ25 e26 => ?_)
            have hI27 : qI σ25 α21 κ ρ := by rw [e26]; exact qI_s15z hI23
            have hF28 : qFr [(86, 11), (86, 15)] [94, 95] σ α σ25 α21 := by rw [e26]; exact qFr_s hF24 86 15 _ (by decide)
            refine qr_aload_n 70 rfl rfl rfl ?_
            refine qr_dup 71 rfl rfl rfl ?_
            refine qr_get 74 rfl rfl rfl (by decide) rfl ?_
            refine qy_v (σ 86 11) ((congrFun (congrFun e26 86) 11).trans rfl) ?_
            refine qr_iconst 75 rfl rfl ?_
            refine qr_iadd 76 rfl rfl ?_
            refine qr_put 79 rfl (by decide) rfl (Nat.le_of_ble_eq_true rfl) (Nat.le_of_ble_eq_true rfl) (Or.inl rfl) (qr_fitI rfl _) rfl ?_
            refine qy_wS (qw_s σ25 86 11 ((σ 86 11) + 1)) rfl (fun σ29 e30 => ?_)
            have hI31 : qI σ29 α21 κ ρ := by rw [e30]; exact qI_s11 hI27 (by omega) (by have hw : σ25 86 15 = 0 := (congrFun (congrFun e26 86) 15).trans rfl; omega) (qE_new hI27 (p := x1) (q := x2) (k := (σ 86 11 : Int).toNat) (by have hw : σ25 86 11 = σ 86 11 := (congrFun (congrFun e26 86) 11).trans rfl; omega) (by rw [e22, qw_r_ne (by decide), e18, qw_r_eq]; unfold qzu; rw [if_pos rfl]) (by rw [e22, qw_r_eq]; unfold qzu; rw [if_pos rfl]) (by have hw : σ25 86 6 = σ 86 6 := (congrFun (congrFun e26 86) 6).trans rfl; omega) (by have hw : σ25 86 6 = σ 86 6 := (congrFun (congrFun e26 86) 6).trans rfl; omega))
            have hF32 : qFr [(86, 11), (86, 15)] [94, 95] σ α σ29 α21 := by rw [e30]; exact qFr_s hF28 86 11 _ (by decide)
            refine qr_aload_n 80 rfl rfl rfl ?_
            refine qr_get 83 rfl rfl rfl (by decide) rfl ?_
            refine qy_v ((σ 86 11) + 1) ((congrFun (congrFun e30 86) 11).trans rfl) ?_
            refine qr_retI rfl rfl (by decide) (by decide) ?_
            have hw33 : σ29 86 11 = ((σ 86 11) + 1) := (congrFun (congrFun e30 86) 11).trans rfl
            have hw34 : σ29 86 15 = 0 := (congrFun (congrFun e30 86) 15).trans ((congrFun (congrFun e26 86) 15).trans rfl)
            exact ⟨_, _, rfl, hI31, hF32, ((σ 86 11) + 1), rfl, by omega, (Or.inr (Or.inr (⟨⟨by omega, fun h => absurd (hx14.2 h) (by omega)⟩, (((congrFun e22 94).trans ((qw_r_ne (by decide)).trans ((congrFun e18 94).trans (qw_r_eq.trans (congrArg (fun f => qzu f ((σ 86 11) : Int).toNat x1) rfl))))).trans (by congr 1; omega)), (((congrFun e22 95).trans (qw_r_eq.trans (congrArg (fun f => qzu f ((σ 86 11) : Int).toNat x2) ((congrFun e18 95).trans ((qw_r_ne (by decide)).trans rfl))))).trans (by congr 1; omega))⟩)))⟩
          · skip
            refine qr_bipush 43 rfl (by decide) rfl ?_
            refine qr_retI rfl rfl (by decide) (by decide) ?_
            have hw35 : σ 86 11 = (σ 86 11) := rfl
            exact ⟨_, _, rfl, hI, hF0, (-3), rfl, by omega, (Or.inr (Or.inl ⟨⟨by omega, fun h => absurd (hx14.2 h) (by omega)⟩, rfl, rfl⟩))⟩
        · skip
          refine qr_iconst 31 rfl rfl ?_
          refine qr_retI rfl rfl (by decide) (by decide) ?_
          have hw36 : σ 86 11 = (σ 86 11) := rfl
          exact ⟨_, _, rfl, hI, hF0, (-1), rfl, by omega, (Or.inl ⟨⟨by omega, fun _ => hx14.1 (by omega)⟩, rfl, rfl⟩)⟩
