section
/-! a new tie laid into the table: P says of a number that it is a way -/
def qCl (P : Int → Int → Int → Prop) (a b : Int) : Prop := ∀ t1 t2 x y : Int, (0 ≤ x ∧ x < 32) → (0 ≤ y ∧ y < 32) → (P t1 x a → P t2 b y → P (t1 + t2 + 1) x y) ∧ (P t1 x b → P t2 a y → P (t1 + t2 + 1) x y)
def qJn (P : Int → Int → Int → Prop) (f g : Nat → Int) (a b n i j : Int) : Prop := (∀ x y : Int, (0 ≤ x ∧ x < 32) → (0 ≤ y ∧ y < 32) → qTb g x y ≤ qTb f x y) ∧ (∀ x y : Int, (0 ≤ x ∧ x < 32) → (0 ≤ y ∧ y < 32) → P (qTb g x y) x y) ∧ (∀ x y : Int, 0 ≤ x → (0 ≤ y ∧ y < n) → (x < i ∨ (x = i ∧ y < j)) → qTb g x y ≤ qTb f x a + qTb f b y + 1 ∧ qTb g x y ≤ qTb f x b + qTb f a y + 1)
theorem qJn_0 {P : Int → Int → Int → Prop} {f : Nat → Int} {a b n : Int} (h : ∀ x y : Int, (0 ≤ x ∧ x < 32) → (0 ≤ y ∧ y < 32) → P (qTb f x y) x y) : qJn P f f a b n 0 0 := by
  refine ⟨fun _ _ _ _ => Int.le_refl _, h, fun x y hx hy hp => ?_⟩
  exact False.elim (by omega)
theorem qJn_row {P : Int → Int → Int → Prop} {f g : Nat → Int} {a b n i j : Int} (h : qJn P f g a b n i j) (hj : n ≤ j) : qJn P f g a b n (i + 1) 0 := by
  refine ⟨h.1, h.2.1, fun x y hx hy hp => h.2.2 x y hx hy ?_⟩
  omega
theorem qJn_end {P : Int → Int → Int → Prop} {f g : Nat → Int} {a b n i : Int} (h : qJn P f g a b n i 0) (hi : n ≤ i) : qJn P f g a b n n 0 :=
  ⟨h.1, h.2.1, fun x y hx hy hp => h.2.2 x y hx hy (by omega)⟩
theorem qJn_skip {P : Int → Int → Int → Prop} {f g : Nat → Int} {a b n i j : Int} (h : qJn P f g a b n i j) (hi : 0 ≤ i ∧ i < 32) (hj : 0 ≤ j ∧ j < n) (hn : n ≤ 32) (ha : 0 ≤ a ∧ a < 32) (hb : 0 ≤ b ∧ b < 32) {t1 t2 t3 t4 t5 m : Int} (e1 : t1 = qTb g i a) (e2 : t2 = qTb g b j) (e3 : t3 = qTb g i b) (e4 : t4 = qTb g a j) (e5 : t5 = qTb g i j) (hm : m ≤ t1 + t2 ∧ m ≤ t3 + t4) (hl : t5 ≤ m + 1) : qJn P f g a b n i (j + 1) := by
  refine ⟨h.1, h.2.1, fun x y hx hy hp => ?_⟩
  by_cases e : x = i ∧ y = j
  · obtain ⟨rfl, rfl⟩ := e
    have h1 := h.1 x a hi ha
    have h2 := h.1 b y hb (by omega)
    have h3 := h.1 x b hi hb
    have h4 := h.1 a y ha (by omega)
    omega
  · exact h.2.2 x y hx hy (by omega)
theorem qJn_set {P : Int → Int → Int → Prop} {f g : Nat → Int} {a b n i j : Int} (h : qJn P f g a b n i j) (cl : qCl P a b) (hi : 0 ≤ i ∧ i < 32) (hj : 0 ≤ j ∧ j < n) (hn : n ≤ 32) (ha : 0 ≤ a ∧ a < 32) (hb : 0 ≤ b ∧ b < 32) {k : Nat} (hk : k = (i * 32 + j : Int).toNat) {t1 t2 t3 t4 t5 m : Int} (e1 : t1 = qTb g i a) (e2 : t2 = qTb g b j) (e3 : t3 = qTb g i b) (e4 : t4 = qTb g a j) (e5 : t5 = qTb g i j) (hm : (m = t1 + t2 ∨ m = t3 + t4) ∧ m ≤ t1 + t2 ∧ m ≤ t3 + t4) (hl : m + 1 < t5) : qJn P f (qzu g k (m + 1)) a b n i (j + 1) := by
  have hj2 : 0 ≤ j ∧ j < 32 := by omega
  refine ⟨fun x y hx hy => ?_, fun x y hx hy => ?_, fun x y hx hy hp => ?_⟩
  · rw [qTb_u hk hi hj2 hx.1 hy]
    split
    · next e =>
      obtain ⟨rfl, rfl⟩ := e
      have h1 := h.1 x y hx hy
      omega
    · exact h.1 x y hx hy
  · rw [qTb_u hk hi hj2 hx.1 hy]
    split
    · next e =>
      obtain ⟨rfl, rfl⟩ := e
      rcases hm.1 with h5 | h5
      · rw [h5, e1, e2]
        exact (cl _ _ x y hx hy).1 (h.2.1 x a hx ha) (h.2.1 b y hb hy)
      · rw [h5, e3, e4]
        exact (cl _ _ x y hx hy).2 (h.2.1 x b hx hb) (h.2.1 a y ha hy)
    · exact h.2.1 x y hx hy
  · rw [qTb_u hk hi hj2 hx (by omega)]
    split
    · next e =>
      obtain ⟨rfl, rfl⟩ := e
      have h1 := h.1 x a hi ha
      have h2 := h.1 b y hb (by omega)
      have h3 := h.1 x b hi hb
      have h4 := h.1 a y ha (by omega)
      omega
    · exact h.2.2 x y hx hy (by omega)

set_option maxHeartbeats 4000000 in
set_option maxRecDepth 20000 in
/-- OneRoof$Kinship.apart -/
theorem sf_57_23x {L : Nat} {xs : Nat → Int} {vb : Bool} {d : Nat} {σ α : Nat → Nat → Int} {κ : Nat → Option Nat} {ρ : Nat} {x1 : Int} {x2 : Int} (hI : qI σ α κ ρ) (r1 : 0 ≤ x1 ∧ x1 ≤ 31) (r2 : 0 ≤ x2 ∧ x2 ≤ 31) : qm_T (qe L xs vb) (d + 1) 57 [.ref 23, .int (qz x1), .int (qz x2)] (qw σ α κ ρ) (fun r w' => w' = qw σ α κ ρ ∧ ∃ v : Int, r = some (.int (qz v)) ∧ (0 ≤ v ∧ v ≤ 99) ∧ v = α 24 (x1 * 32 + x2 : Int).toNat) := by
  refine qr_start (d := d + 0) qv_e57 (Nat.le_of_ble_eq_true rfl) ?_
  show qr_W (qe L xs vb) (d + 0) qx_e57 _ (0, [(0, .ref 23), (1, .int (qz x1)), (2, .int (qz x2))], [], _, 0, 0)
  refine qr_aload_n 1 rfl rfl rfl ?_
  refine qr_get 4 rfl rfl rfl (by decide) rfl ?_
  refine qr_iload_n 5 rfl rfl rfl ?_
  refine qr_bipush 7 rfl (by decide) rfl ?_
  refine qr_imul 8 rfl rfl ?_
  refine qr_iload_n 9 rfl rfl rfl ?_
  refine qr_iadd 10 rfl rfl ?_
  refine qr_iaload 11 rfl rfl (by omega) (by decide) rfl ?_
  refine qr_topI (fun v1 hv1 => ?_)
  have hs2 : 0 ≤ v1 ∧ v1 ≤ 99 := by rw [hv1]; exact hI.2.1 24 _ (show _ < 1024 by omega)
  refine qr_retI rfl rfl (by decide) (by decide) ?_
  exact ⟨rfl, v1, rfl, hs2, by omega⟩

set_option maxHeartbeats 4000000 in
set_option maxRecDepth 20000 in
/-- OneRoof$Kinship.join -/
theorem sf_58_23x {L : Nat} {xs : Nat → Int} {vb : Bool} {d : Nat} {σ α : Nat → Nat → Int} {κ : Nat → Option Nat} {ρ : Nat} {x1 : Int} {x2 : Int} {x3 : Int} {P : Int → Int → Int → Prop} (hI : qI σ α κ ρ) (r1 : 0 ≤ x1 ∧ x1 ≤ 31) (r2 : 0 ≤ x2 ∧ x2 ≤ 31) (r3 : 0 ≤ x3 ∧ x3 ≤ 32) (p0 : ∀ x y : Int, (0 ≤ x ∧ x < 32) → (0 ≤ y ∧ y < 32) → P (qTb (α 24) x y) x y) (p1 : qCl P x1 x2) (p2 : 0 ≤ σ 23 1 ∧ σ 23 1 ≤ 60) : qm_T (qe L xs vb) (d + 2) 58 [.ref 23, .int (qz x1), .int (qz x2), .int (qz x3)] (qw σ α κ ρ) (fun r w' => ∃ σ' α', w' = qw σ' α' κ ρ ∧ qI σ' α' κ ρ ∧ qFr [(23, 1)] [24] σ α σ' α' ∧ σ' 23 1 = σ 23 1 + 1 ∧ r = none ∧ qJn P (α 24) (α' 24) x1 x2 x3 x3 0) := by
  refine qr_start (d := d + 1) qv_e58 (Nat.le_of_ble_eq_true rfl) ?_
  show qr_W (qe L xs vb) (d + 1) qx_e58 _ (0, [(0, .ref 23), (1, .int (qz x1)), (2, .int (qz x2)), (3, .int (qz x3))], [], _, 0, 0)
  have hF0 := qFr_rf [(23, 1)] [24] σ α
  have hz23_1 : (-2147483648) ≤ σ 23 1 ∧ σ 23 1 ≤ 2147483647 := hI.1 23 1
  refine qr_aload_n 1 rfl rfl rfl ?_
  refine qr_dup 2 rfl rfl rfl ?_
  refine qr_get 5 rfl rfl rfl (by decide) rfl ?_
  refine qr_iconst 6 rfl rfl ?_
  refine qr_iadd 7 rfl rfl ?_
  refine qr_put 10 rfl (by decide) rfl (Nat.le_of_ble_eq_true rfl) (Nat.le_of_ble_eq_true rfl) (Or.inl rfl) (qr_fitI rfl _) rfl ?_
  refine qy_wS (qw_s σ 23 1 ((σ 23 1) + 1)) rfl (fun σ1 e2 => ?_)
  have hI3 : qI σ1 α κ ρ := by rw [e2]; exact qI_s hI 23 1 rfl (show (-2147483648) ≤ ((σ 23 1) + 1) ∧ ((σ 23 1) + 1) ≤ 2147483647 by omega)
  have hF4 : qFr [(23, 1)] [24] σ α σ1 α := by rw [e2]; exact qFr_s hF0 23 1 _ (by decide)
  refine qr_iconst 11 rfl rfl ?_
  refine qr_istore _ 13 rfl (by decide) rfl rfl ?_
  have hL4877 : ∀ (n : Nat) (ls : qm_L) (u4870 : Int) (α4872 : Nat → Nat → Int), 32 - u4870 < (n : Int) → qm_get ls 0 = some (.ref 23) → qm_get ls 1 = some (.int (qz x1)) → qm_get ls 2 = some (.int (qz x2)) → qm_get ls 3 = some (.int (qz x3)) → qm_get ls 4 = some (.int (qz u4870)) → (0 ≤ u4870 ∧ u4870 ≤ 32) → qI σ1 α4872 κ ρ → qFr [(23, 1)] [24] σ α σ1 α4872 → qJn P (α 24) (α4872 24) x1 x2 x3 u4870 0 → qr_W (qe L xs vb) (d + 1) qx_e58 (fun r w' => ∃ σ' α', w' = qw σ' α' κ ρ ∧ qI σ' α' κ ρ ∧ qFr [(23, 1)] [24] σ α σ' α' ∧ σ' 23 1 = σ 23 1 + 1 ∧ r = none ∧ qJn P (α 24) (α' 24) x1 x2 x3 x3 0) (13, ls, [], qw σ1 α4872 κ ρ, 0, 0) := by
    intro n
    induction n with
    | zero => intro ls u4870 α4872 hm g4865 g4866 g4867 g4868 g4869 hf4875 hI4873 hF4874 hx4876; exact False.elim (by omega)
    | succ n ih4878 =>
      intro ls u4870 α4872 hm g4865 g4866 g4867 g4868 g4869 hf4875 hI4873 hF4874 hx4876
      refine qr_iload 15 rfl g4869 rfl ?_
      refine qr_iload_n 16 rfl g4868 rfl ?_
      refine qr_icmp_ge 105 19 rfl rfl rfl (qrg hf4875 (by decide) (by decide)) (qrg r3 (by decide) (by decide)) (fun h4879 => ?_) (fun h4879 => ?_)
      · skip
        refine qr_retV rfl rfl (by decide) (by decide) ?_
        exact ⟨_, _, rfl, hI4873, hF4874, (by have hw : σ1 23 1 = ((σ 23 1) + 1) := (congrFun (congrFun e2 23) 1).trans rfl; omega), rfl, (qJn_end hx4876 (by omega))⟩
      · skip
        refine qr_iconst 20 rfl rfl ?_
        refine qr_istore _ 22 rfl (by decide) rfl rfl ?_
        have hL5193 : ∀ (n : Nat) (ls : qm_L) (u5186 : Int) (α5188 : Nat → Nat → Int), 32 - u5186 < (n : Int) → qm_get ls 0 = some (.ref 23) → qm_get ls 1 = some (.int (qz x1)) → qm_get ls 2 = some (.int (qz x2)) → qm_get ls 3 = some (.int (qz x3)) → qm_get ls 4 = some (.int (qz u4870)) → qm_get ls 5 = some (.int (qz u5186)) → (0 ≤ u5186 ∧ u5186 ≤ 32) → qI σ1 α5188 κ ρ → qFr [(23, 1)] [24] σ α σ1 α5188 → qJn P (α 24) (α5188 24) x1 x2 x3 u4870 u5186 → qr_W (qe L xs vb) (d + 1) qx_e58 (fun r w' => ∃ σ' α', w' = qw σ' α' κ ρ ∧ qI σ' α' κ ρ ∧ qFr [(23, 1)] [24] σ α σ' α' ∧ σ' 23 1 = σ 23 1 + 1 ∧ r = none ∧ qJn P (α 24) (α' 24) x1 x2 x3 x3 0) (22, ls, [], qw σ1 α5188 κ ρ, 0, 0) := by
          intro n
          induction n with
          | zero => intro ls u5186 α5188 hm g5180 g5181 g5182 g5183 g5184 g5185 hf5191 hI5189 hF5190 hx5192; exact False.elim (by omega)
          | succ n ih5194 =>
            intro ls u5186 α5188 hm g5180 g5181 g5182 g5183 g5184 g5185 hf5191 hI5189 hF5190 hx5192
            refine qr_iload 24 rfl g5185 rfl ?_
            refine qr_iload_n 25 rfl g5183 rfl ?_
            refine qr_icmp_ge 99 28 rfl rfl rfl (qrg hf5191 (by decide) (by decide)) (qrg r3 (by decide) (by decide)) (fun h5195 => ?_) (fun h5195 => ?_)
            · skip
              refine qr_iinc _ 102 rfl g5184 (by decide) rfl rfl ?_
              refine qr_goto 13 rfl rfl ?_
              exact ih4878 _ (u4870 + 1) α5188 (by omega) (qm_gk g5180 (by decide) (Or.inl (by decide))) (qm_gk g5181 (by decide) (Or.inl (by decide))) (qm_gk g5182 (by decide) (Or.inl (by decide))) (qm_gk g5183 (by decide) (Or.inr rfl)) (qm_ge _ _ _) (by omega) hI5189 hF5190 (qJn_row hx5192 (by omega))
            · skip
              refine qr_aload_n 29 rfl g5180 rfl ?_
              refine qr_iload 31 rfl g5184 rfl ?_
              refine qr_iload_n 32 rfl g5181 rfl ?_
              refine qr_callN 35 rfl rfl rfl (sf_57_23x (d := d + 0) hI5189 (by omega) r1) ?_
              rintro _ _ ⟨rfl, v5196, rfl, hv5196, hp5197⟩
              show qr_W (qe L xs vb) (d + 1) qx_e58 _ (35, _, [.int (qz v5196)], qw σ1 α5188 κ ρ, 0, 0)
              refine qr_aload_n 36 rfl g5180 rfl ?_
              refine qr_iload_n 37 rfl g5182 rfl ?_
              refine qr_iload 39 rfl g5185 rfl ?_
              refine qr_callN 42 rfl rfl rfl (sf_57_23x (d := d + 0) hI5189 r2 (by omega)) ?_
              rintro _ _ ⟨rfl, v5198, rfl, hv5198, hp5199⟩
              show qr_W (qe L xs vb) (d + 1) qx_e58 _ (42, _, [.int (qz v5198), .int (qz v5196)], qw σ1 α5188 κ ρ, 0, 0)
              refine qr_iadd 43 rfl rfl ?_
              refine qr_aload_n 44 rfl g5180 rfl ?_
              refine qr_iload 46 rfl g5184 rfl ?_
              refine qr_iload_n 47 rfl g5182 rfl ?_
              refine qr_callN 50 rfl rfl rfl (sf_57_23x (d := d + 0) hI5189 (by omega) r2) ?_
              rintro _ _ ⟨rfl, v5200, rfl, hv5200, hp5201⟩
              show qr_W (qe L xs vb) (d + 1) qx_e58 _ (50, _, [.int (qz v5200), .int (qz (v5196 + v5198))], qw σ1 α5188 κ ρ, 0, 0)
              refine qr_aload_n 51 rfl g5180 rfl ?_
              refine qr_iload_n 52 rfl g5181 rfl ?_
              refine qr_iload 54 rfl g5185 rfl ?_
              refine qr_callN 57 rfl rfl rfl (sf_57_23x (d := d + 0) hI5189 r1 (by omega)) ?_
              rintro _ _ ⟨rfl, v5202, rfl, hv5202, hp5203⟩
              show qr_W (qe L xs vb) (d + 1) qx_e58 _ (57, _, [.int (qz v5202), .int (qz v5200), .int (qz (v5196 + v5198))], qw σ1 α5188 κ ρ, 0, 0)
              refine qr_iadd 58 rfl rfl ?_
              refine qr_callN 61 rfl rfl rfl (sf_12 (d := d + 0) hI5189 (by omega) (by omega)) ?_
              rintro _ _ ⟨rfl, v5204, rfl, hv5204, hp5205⟩
              show qr_W (qe L xs vb) (d + 1) qx_e58 _ (61, _, [.int (qz v5204)], qw σ1 α5188 κ ρ, 0, 0)
              refine qr_iconst 62 rfl rfl ?_
              refine qr_iadd 63 rfl rfl ?_
              refine qr_istore _ 65 rfl (by decide) rfl rfl ?_
              refine qr_iload 67 rfl (qm_ge _ _ _) rfl ?_
              refine qr_aload_n 68 rfl (qm_gk g5180 (by decide) (Or.inl (by decide))) rfl ?_
              refine qr_iload 70 rfl (qm_gk g5184 (by decide) (Or.inl (by decide))) rfl ?_
              refine qr_iload 72 rfl (qm_gk g5185 (by decide) (Or.inr rfl)) rfl ?_
              refine qr_callN 75 rfl rfl rfl (sf_57_23x (d := d + 0) hI5189 (by omega) (by omega)) ?_
              rintro _ _ ⟨rfl, v5206, rfl, hv5206, hp5207⟩
              show qr_W (qe L xs vb) (d + 1) qx_e58 _ (75, _, [.int (qz v5206), .int (qz (v5204 + 1))], qw σ1 α5188 κ ρ, 0, 0)
              refine qr_icmp_ge 93 78 rfl rfl rfl (by omega) (qrg hv5206 (by decide) (by decide)) (fun h5208 => ?_) (fun h5208 => ?_)
              · skip
                refine qr_iinc _ 96 rfl (qm_gk g5185 (by decide) (Or.inr rfl)) (by decide) rfl rfl ?_
                refine qr_goto 22 rfl rfl ?_
                exact ih5194 _ (u5186 + 1) α5188 (by omega) (qm_gk (qm_gk g5180 (by decide) (Or.inl (by decide))) (by decide) (Or.inl (by decide))) (qm_gk (qm_gk g5181 (by decide) (Or.inl (by decide))) (by decide) (Or.inl (by decide))) (qm_gk (qm_gk g5182 (by decide) (Or.inl (by decide))) (by decide) (Or.inl (by decide))) (qm_gk (qm_gk g5183 (by decide) (Or.inl (by decide))) (by decide) (Or.inl (by decide))) (qm_gk (qm_gk g5184 (by decide) (Or.inl (by decide))) (by decide) (Or.inr rfl)) (qm_ge _ _ _) (by omega) hI5189 hF5190 (qJn_skip hx5192 (by omega) (by omega) (by omega) (by omega) (by omega) hp5197 hp5199 hp5201 hp5203 hp5207 (m := v5204) (by omega) (by omega))
              · skip
                refine qr_aload_n 79 rfl (qm_gk g5180 (by decide) (Or.inl (by decide))) rfl ?_
                refine qr_get 82 rfl rfl rfl (by decide) rfl ?_
                refine qr_iload 84 rfl (qm_gk g5184 (by decide) (Or.inl (by decide))) rfl ?_
                refine qr_bipush 86 rfl (by decide) rfl ?_
                refine qr_imul 87 rfl rfl ?_
                refine qr_iload 89 rfl (qm_gk g5185 (by decide) (Or.inr rfl)) rfl ?_
                refine qr_iadd 90 rfl rfl ?_
                refine qr_iload 92 rfl (qm_ge _ _ _) rfl ?_
                refine qr_iastore 93 rfl (by decide) rfl (by omega) (by decide) rfl ?_
                refine qy_wA (qw_r α5188 24 (qzu (α5188 24) (((u4870 * 32) + u5186) : Int).toNat (v5204 + 1))) rfl (fun α5209 e5210 => ?_)
                have hI5211 : qI σ1 α5209 κ ρ := by rw [e5210]; exact qI_r hI5189 24 _ rfl (show 0 ≤ (v5204 + 1) ∧ (v5204 + 1) ≤ 99 by omega)
                have hF5212 : qFr [(23, 1)] [24] σ α σ1 α5209 := by rw [e5210]; exact qFr_r hF5190 24 _ (by decide)
                refine qr_iinc _ 96 rfl (qm_gk g5185 (by decide) (Or.inr rfl)) (by decide) rfl rfl ?_
                refine qr_goto 22 rfl rfl ?_
                exact ih5194 _ (u5186 + 1) α5209 (by omega) (qm_gk (qm_gk g5180 (by decide) (Or.inl (by decide))) (by decide) (Or.inl (by decide))) (qm_gk (qm_gk g5181 (by decide) (Or.inl (by decide))) (by decide) (Or.inl (by decide))) (qm_gk (qm_gk g5182 (by decide) (Or.inl (by decide))) (by decide) (Or.inl (by decide))) (qm_gk (qm_gk g5183 (by decide) (Or.inl (by decide))) (by decide) (Or.inl (by decide))) (qm_gk (qm_gk g5184 (by decide) (Or.inl (by decide))) (by decide) (Or.inr rfl)) (qm_ge _ _ _) (by omega) hI5211 hF5212 (by rw [(congrFun e5210 24).trans qw_r_eq]; exact qJn_set hx5192 p1 (by omega) (by omega) (by omega) (by omega) (by omega) rfl hp5197 hp5199 hp5201 hp5203 hp5207 (by omega) (by omega))
        exact hL5193 ((32 - 0 + 1 : Int)).toNat _ 0 α4872 (by omega) (qm_gk g4865 (by decide) (Or.inl (by decide))) (qm_gk g4866 (by decide) (Or.inl (by decide))) (qm_gk g4867 (by decide) (Or.inl (by decide))) (qm_gk g4868 (by decide) (Or.inl (by decide))) (qm_gk g4869 (by decide) (Or.inr rfl)) (qm_ge _ _ _) (by decide) hI4873 hF4874 hx4876
  exact hL4877 ((32 - 0 + 1 : Int)).toNat _ 0 α (by omega) rfl rfl rfl rfl rfl (by decide) hI3 hF4 (qJn_0 p0)

set_option maxHeartbeats 4000000 in
set_option maxRecDepth 20000 in
/-- OneRoof.kin -/
theorem sf_56_16x {L : Nat} {xs : Nat → Int} {vb : Bool} {d : Nat} {σ α : Nat → Nat → Int} {κ : Nat → Option Nat} {ρ : Nat} {x1 : Int} {x2 : Int} {P : Int → Int → Int → Prop} (hI : qI σ α κ ρ) (r1 : (-2147483648) ≤ x1 ∧ x1 ≤ 2147483647) (r2 : (-2147483648) ≤ x2 ∧ x2 ≤ 2147483647) (p0 : ∀ x y : Int, (0 ≤ x ∧ x < 32) → (0 ≤ y ∧ y < 32) → P (qTb (α 24) x y) x y) (p1 : qCl P x1 x2) (p2 : 0 ≤ σ 23 1 ∧ σ 23 1 ≤ 60) : qm_T (qe L xs vb) (d + 3) 56 [.ref 16, .int (qz x1), .int (qz x2)] (qw σ α κ ρ) (fun r w' => ∃ σ' α', w' = qw σ' α' κ ρ ∧ qI σ' α' κ ρ ∧ qFr [(23, 1)] [24] σ α σ' α' ∧ ∃ v : Int, r = some (.int (qz v)) ∧ ((-2147483648) ≤ v ∧ v ≤ 2147483647) ∧ (((v = -1 ∧ ¬ ((0 ≤ x1 ∧ x1 < σ 17 6 ∧ 0 ≤ x2 ∧ x2 < σ 17 6 ∧ ¬ x1 = x2) ∧ ¬ α 24 (x1 * 32 + x2 : Int).toNat = 1) ∧ σ' 23 1 = σ 23 1) ∧ α' 24 = α 24) ∨ ((v = -3 ∧ ((0 ≤ x1 ∧ x1 < σ 17 6 ∧ 0 ≤ x2 ∧ x2 < σ 17 6 ∧ ¬ x1 = x2) ∧ ¬ α 24 (x1 * 32 + x2 : Int).toNat = 1) ∧ 60 ≤ σ 23 1 ∧ σ' 23 1 = σ 23 1) ∧ α' 24 = α 24) ∨ (((v = σ 23 1 + 1 ∧ ((0 ≤ x1 ∧ x1 < σ 17 6 ∧ 0 ≤ x2 ∧ x2 < σ 17 6 ∧ ¬ x1 = x2) ∧ ¬ α 24 (x1 * 32 + x2 : Int).toNat = 1) ∧ σ 23 1 < 60 ∧ σ' 23 1 = σ 23 1 + 1) ∧ qJn P (α 24) (α' 24) x1 x2 (σ 17 6) (σ 17 6) 0)))) := by
  refine qr_start (d := d + 2) qv_e56 (Nat.le_of_ble_eq_true rfl) ?_
  show qr_W (qe L xs vb) (d + 2) qx_e56 _ (0, [(0, .ref 16), (1, .int (qz x1)), (2, .int (qz x2))], [], _, 0, 0)
  have hF0 := qFr_rf [(23, 1)] [24] σ α
  have hz17_6 : 0 ≤ σ 17 6 ∧ σ 17 6 ≤ 32 := hI.1 17 6
  have hz23_1 : (-2147483648) ≤ σ 23 1 ∧ σ 23 1 ≤ 2147483647 := hI.1 23 1
  refine qr_aload_n 1 rfl rfl rfl ?_
  refine qr_get 4 rfl rfl rfl (by decide) rfl ?_
  refine qr_iload_n 5 rfl rfl rfl ?_
  refine qr_callN 8 rfl rfl rfl (sf_40_17 (d := d + 1) hI r1) ?_
  have hs3 : 0 ≤ σ 17 6 ∧ σ 17 6 ≤ 32 := hI.1 17 6
  rintro _ _ ⟨rfl, v1, rfl, hv1, hp2⟩
  show qr_W (qe L xs vb) (d + 2) qx_e56 _ (8, _, [.int (qz v1)], qw σ α κ ρ, 0, 0)
  refine qr_if_eq 27 11 rfl rfl rfl (qrg hv1 (by decide) (by decide)) (fun h4 => ?_) (fun h4 => ?_)
  · skip
    refine qr_iconst 28 rfl rfl ?_
    refine qr_retI rfl rfl (by decide) (by decide) ?_
    have hw5 : σ 23 1 = (σ 23 1) := rfl
    exact ⟨_, _, rfl, hI, hF0, (-1), rfl, (by decide), (Or.inl ⟨by omega, rfl⟩)⟩
  · skip
    refine qr_aload_n 12 rfl rfl rfl ?_
    refine qr_get 15 rfl rfl rfl (by decide) rfl ?_
    refine qr_iload_n 16 rfl rfl rfl ?_
    refine qr_callN 19 rfl rfl rfl (sf_40_17 (d := d + 1) hI r2) ?_
    have hs8 : 0 ≤ σ 17 6 ∧ σ 17 6 ≤ 32 := hI.1 17 6
    rintro _ _ ⟨rfl, v6, rfl, hv6, hp7⟩
    show qr_W (qe L xs vb) (d + 2) qx_e56 _ (19, _, [.int (qz v6)], qw σ α κ ρ, 0, 0)
    refine qr_if_eq 27 22 rfl rfl rfl (qrg hv6 (by decide) (by decide)) (fun h9 => ?_) (fun h9 => ?_)
    · skip
      refine qr_iconst 28 rfl rfl ?_
      refine qr_retI rfl rfl (by decide) (by decide) ?_
      have hw10 : σ 23 1 = (σ 23 1) := rfl
      exact ⟨_, _, rfl, hI, hF0, (-1), rfl, (by decide), (Or.inl ⟨by omega, rfl⟩)⟩
    · skip
      refine qr_iload_n 23 rfl rfl rfl ?_
      refine qr_iload_n 24 rfl rfl rfl ?_
      refine qr_icmp_ne 29 27 rfl rfl rfl r1 r2 (fun h11 => ?_) (fun h11 => ?_)
      · skip
        refine qr_aload_n 30 rfl rfl rfl ?_
        refine qr_get 33 rfl rfl rfl (by decide) rfl ?_
        refine qr_iload_n 34 rfl rfl rfl ?_
        refine qr_iload_n 35 rfl rfl rfl ?_
        refine qr_callN 38 rfl rfl rfl (sf_57_23x (d := d + 1) hI (by omega) (by omega)) ?_
        rintro _ _ ⟨rfl, v12, rfl, hv12, hp13⟩
        show qr_W (qe L xs vb) (d + 2) qx_e56 _ (38, _, [.int (qz v12)], qw σ α κ ρ, 0, 0)
        refine qr_iconst 39 rfl rfl ?_
        refine qr_icmp_ne 44 42 rfl rfl rfl (qrg hv12 (by decide) (by decide)) (by decide) (fun h14 => ?_) (fun h14 => ?_)
        · skip
          refine qr_aload_n 45 rfl rfl rfl ?_
          refine qr_get 48 rfl rfl rfl (by decide) rfl ?_
          refine qr_get 51 rfl rfl rfl (by decide) rfl ?_
          refine qr_bipush 53 rfl (by decide) rfl ?_
          refine qr_icmp_lt 59 56 rfl rfl rfl hz23_1 (by decide) (fun h15 => ?_) (fun h15 => ?_)
          · skip
            refine qr_aload_n 60 rfl rfl rfl ?_
            refine qr_get 63 rfl rfl rfl (by decide) rfl ?_
            refine qr_iload_n 64 rfl rfl rfl ?_
            refine qr_iload_n 65 rfl rfl rfl ?_
            refine qr_aload_n 66 rfl rfl rfl ?_
            refine qr_get 69 rfl rfl rfl (by decide) rfl ?_
            refine qr_get 72 rfl rfl rfl (by decide) rfl ?_
            have hs16 : (-2147483648) ≤ σ 23 1 ∧ σ 23 1 ≤ 2147483647 := hI.1 23 1
            refine qr_callN 75 rfl rfl rfl (sf_58_23x (d := d + 0) hI (by omega) (by omega) hz17_6 p0 p1 (by omega)) ?_
            rintro _ _ ⟨σ19, α20, rfl, hI21, hG22, hw18, rfl, hx17⟩
            have hF23 : qFr [(23, 1)] [24] σ α σ19 α20 := qFr_t hF0 hG22 (by decide) (by decide)
            have hs24 : (-2147483648) ≤ σ19 23 1 ∧ σ19 23 1 ≤ 2147483647 := hI21.1 23 1
            show qr_W (qe L xs vb) (d + 2) qx_e56 _ (75, _, [], qw σ19 α20 κ ρ, 0, 0)
            refine qr_aload_n 76 rfl rfl rfl ?_
            refine qr_get 79 rfl rfl rfl (by decide) rfl ?_
            refine qr_get 82 rfl rfl rfl (by decide) rfl ?_
            refine qr_retI rfl rfl (by decide) (by decide) ?_
            have hw25 : σ19 23 1 = (σ19 23 1) := rfl
            exact ⟨_, _, rfl, hI21, hF23, (σ19 23 1), rfl, (by omega), (Or.inr (Or.inr (⟨by omega, hx17⟩)))⟩
          · skip
            refine qr_bipush 58 rfl (by decide) rfl ?_
            refine qr_retI rfl rfl (by decide) (by decide) ?_
            have hw26 : σ 23 1 = (σ 23 1) := rfl
            exact ⟨_, _, rfl, hI, hF0, (-3), rfl, (by decide), (Or.inr (Or.inl ⟨by omega, rfl⟩))⟩
        · skip
          refine qr_iconst 43 rfl rfl ?_
          refine qr_retI rfl rfl (by decide) (by decide) ?_
          have hw27 : σ 23 1 = (σ 23 1) := rfl
          exact ⟨_, _, rfl, hI, hF0, (-1), rfl, (by decide), (Or.inl ⟨by omega, rfl⟩)⟩
      · skip
        refine qr_iconst 28 rfl rfl ?_
        refine qr_retI rfl rfl (by decide) (by decide) ?_
        have hw28 : σ 23 1 = (σ 23 1) := rfl
        exact ⟨_, _, rfl, hI, hF0, (-1), rfl, (by decide), (Or.inl ⟨by omega, rfl⟩)⟩

set_option maxHeartbeats 4000000 in
set_option maxRecDepth 20000 in
/-- OneRoofModel.areKin -/
theorem sf_185_86x {L : Nat} {xs : Nat → Int} {vb : Bool} {d : Nat} {σ α : Nat → Nat → Int} {κ : Nat → Option Nat} {ρ : Nat} {x1 : Int} {x2 : Int} (hI : qI σ α κ ρ) (r1 : (-2147483648) ≤ x1 ∧ x1 ≤ 2147483647) (r2 : (-2147483648) ≤ x2 ∧ x2 ≤ 2147483647) : qm_T (qe L xs vb) (d + 1) 185 [.ref 86, .int (qz x1), .int (qz x2)] (qw σ α κ ρ) (fun r w' => w' = qw σ α κ ρ ∧ ∃ v : Int, r = some (.int (qz v)) ∧ (0 ≤ v ∧ v ≤ 1) ∧ (v = 1 ↔ qAj (α 94) (α 95) (σ 86 11) x1 x2)) := by
  refine qr_start (d := d + 0) qv_e185 (Nat.le_of_ble_eq_true rfl) ?_
  show qr_W (qe L xs vb) (d + 0) qx_e185 _ (0, [(0, .ref 86), (1, .int (qz x1)), (2, .int (qz x2))], [], _, 0, 0)
  refine qr_iconst 1 rfl rfl ?_
  refine qr_istore_n _ 2 rfl (by decide) rfl rfl ?_
  have hL433 : ∀ (n : Nat) (ls : qm_L) (u430 : Int), 61 - u430 < (n : Int) → qm_get ls 0 = some (.ref 86) → qm_get ls 1 = some (.int (qz x1)) → qm_get ls 2 = some (.int (qz x2)) → qm_get ls 3 = some (.int (qz u430)) → (0 ≤ u430 ∧ u430 ≤ 61) → (∀ k : Nat, (k : Int) < u430 → ¬ ((α 94 k = x1 ∧ α 95 k = x2) ∨ (α 94 k = x2 ∧ α 95 k = x1))) → qr_W (qe L xs vb) (d + 0) qx_e185 (fun r w' => w' = qw σ α κ ρ ∧ ∃ v : Int, r = some (.int (qz v)) ∧ (0 ≤ v ∧ v ≤ 1) ∧ (v = 1 ↔ qAj (α 94) (α 95) (σ 86 11) x1 x2)) (2, ls, [], qw σ α κ ρ, 0, 0) := by
    intro n
    induction n with
    | zero => intro ls u430 hm g426 g427 g428 g429 hf431 hx432; exact False.elim (by omega)
    | succ n ih434 =>
      intro ls u430 hm g426 g427 g428 g429 hf431 hx432
      refine qr_iload_n 3 rfl g429 rfl ?_
      refine qr_aload_n 4 rfl g426 rfl ?_
      refine qr_get 7 rfl rfl rfl (by decide) rfl ?_
      have hs435 : 0 ≤ σ 86 11 ∧ σ 86 11 ≤ 61 := hI.1 86 11
      refine qr_icmp_ge 58 10 rfl rfl rfl (qrg hf431 (by decide) (by decide)) (qrg hs435 (by decide) (by decide)) (fun h436 => ?_) (fun h436 => ?_)
      · skip
        refine qr_iconst 59 rfl rfl ?_
        refine qr_retZ rfl rfl (Or.inl rfl) (by decide) (by decide) ?_
        exact ⟨rfl, 0, rfl, (by decide), ⟨fun h => absurd h (by decide), fun h => by obtain ⟨k, h1, h2⟩ := h; exact absurd h2 (hx432 k (by omega))⟩⟩
      · skip
        refine qr_aload_n 11 rfl g426 rfl ?_
        refine qr_get 14 rfl rfl rfl (by decide) rfl ?_
        refine qr_iload_n 15 rfl g429 rfl ?_
        refine qr_iaload 16 rfl rfl (by omega) (by decide) rfl ?_
        refine qr_topI (fun v437 hv437 => ?_)
        have hs438 : 0 ≤ v437 ∧ v437 ≤ 31 := by rw [hv437]; exact hI.2.1 94 _ (show _ < 61 by omega)
        refine qr_iload_n 17 rfl g427 rfl ?_
        refine qr_icmp_ne 30 20 rfl rfl rfl (qrg hs438 (by decide) (by decide)) r1 (fun h439 => ?_) (fun h439 => ?_)
        · skip
          refine qr_aload_n 31 rfl g426 rfl ?_
          refine qr_get 34 rfl rfl rfl (by decide) rfl ?_
          refine qr_iload_n 35 rfl g429 rfl ?_
          refine qr_iaload 36 rfl rfl (by omega) (by decide) rfl ?_
          refine qr_topI (fun v440 hv440 => ?_)
          have hs441 : 0 ≤ v440 ∧ v440 ≤ 31 := by rw [hv440]; exact hI.2.1 94 _ (show _ < 61 by omega)
          refine qr_iload_n 37 rfl g428 rfl ?_
          refine qr_icmp_ne 52 40 rfl rfl rfl (qrg hs441 (by decide) (by decide)) r2 (fun h442 => ?_) (fun h442 => ?_)
          · skip
            refine qr_iinc _ 55 rfl g429 (by decide) rfl rfl ?_
            refine qr_goto 2 rfl rfl ?_
            exact ih434 _ (u430 + 1) (by omega) (qm_gk g426 (by decide) (Or.inl (by decide))) (qm_gk g427 (by decide) (Or.inl (by decide))) (qm_gk g428 (by decide) (Or.inr rfl)) (qm_ge _ _ _) (by omega) (fun k hk => by by_cases e : k = (u430 : Int).toNat; (rw [e]; omega); (exact hx432 k (by omega)))
          · skip
            refine qr_aload_n 41 rfl g426 rfl ?_
            refine qr_get 44 rfl rfl rfl (by decide) rfl ?_
            refine qr_iload_n 45 rfl g429 rfl ?_
            refine qr_iaload 46 rfl rfl (by omega) (by decide) rfl ?_
            refine qr_topI (fun v443 hv443 => ?_)
            have hs444 : 0 ≤ v443 ∧ v443 ≤ 31 := by rw [hv443]; exact hI.2.1 95 _ (show _ < 61 by omega)
            refine qr_iload_n 47 rfl g427 rfl ?_
            refine qr_icmp_ne 52 50 rfl rfl rfl (qrg hs444 (by decide) (by decide)) r1 (fun h445 => ?_) (fun h445 => ?_)
            · skip
              refine qr_iinc _ 55 rfl g429 (by decide) rfl rfl ?_
              refine qr_goto 2 rfl rfl ?_
              exact ih434 _ (u430 + 1) (by omega) (qm_gk g426 (by decide) (Or.inl (by decide))) (qm_gk g427 (by decide) (Or.inl (by decide))) (qm_gk g428 (by decide) (Or.inr rfl)) (qm_ge _ _ _) (by omega) (fun k hk => by by_cases e : k = (u430 : Int).toNat; (rw [e]; omega); (exact hx432 k (by omega)))
            · skip
              refine qr_iconst 51 rfl rfl ?_
              refine qr_retZ rfl rfl (Or.inr rfl) (by decide) (by decide) ?_
              exact ⟨rfl, 1, rfl, (by decide), ⟨fun _ => ⟨(u430 : Int).toNat, by omega, by omega⟩, fun _ => rfl⟩⟩
        · skip
          refine qr_aload_n 21 rfl g426 rfl ?_
          refine qr_get 24 rfl rfl rfl (by decide) rfl ?_
          refine qr_iload_n 25 rfl g429 rfl ?_
          refine qr_iaload 26 rfl rfl (by omega) (by decide) rfl ?_
          refine qr_topI (fun v446 hv446 => ?_)
          have hs447 : 0 ≤ v446 ∧ v446 ≤ 31 := by rw [hv446]; exact hI.2.1 95 _ (show _ < 61 by omega)
          refine qr_iload_n 27 rfl g428 rfl ?_
          refine qr_icmp_eq 50 30 rfl rfl rfl (qrg hs447 (by decide) (by decide)) r2 (fun h448 => ?_) (fun h448 => ?_)
          · skip
            refine qr_iconst 51 rfl rfl ?_
            refine qr_retZ rfl rfl (Or.inr rfl) (by decide) (by decide) ?_
            exact ⟨rfl, 1, rfl, (by decide), ⟨fun _ => ⟨(u430 : Int).toNat, by omega, by omega⟩, fun _ => rfl⟩⟩
          · skip
            refine qr_aload_n 31 rfl g426 rfl ?_
            refine qr_get 34 rfl rfl rfl (by decide) rfl ?_
            refine qr_iload_n 35 rfl g429 rfl ?_
            refine qr_iaload 36 rfl rfl (by omega) (by decide) rfl ?_
            refine qr_topI (fun v449 hv449 => ?_)
            have hs450 : 0 ≤ v449 ∧ v449 ≤ 31 := by rw [hv449]; exact hI.2.1 94 _ (show _ < 61 by omega)
            refine qr_iload_n 37 rfl g428 rfl ?_
            refine qr_icmp_ne 52 40 rfl rfl rfl (qrg hs450 (by decide) (by decide)) r2 (fun h451 => ?_) (fun h451 => ?_)
            · skip
              refine qr_iinc _ 55 rfl g429 (by decide) rfl rfl ?_
              refine qr_goto 2 rfl rfl ?_
              exact ih434 _ (u430 + 1) (by omega) (qm_gk g426 (by decide) (Or.inl (by decide))) (qm_gk g427 (by decide) (Or.inl (by decide))) (qm_gk g428 (by decide) (Or.inr rfl)) (qm_ge _ _ _) (by omega) (fun k hk => by by_cases e : k = (u430 : Int).toNat; (rw [e]; omega); (exact hx432 k (by omega)))
            · skip
              refine qr_aload_n 41 rfl g426 rfl ?_
              refine qr_get 44 rfl rfl rfl (by decide) rfl ?_
              refine qr_iload_n 45 rfl g429 rfl ?_
              refine qr_iaload 46 rfl rfl (by omega) (by decide) rfl ?_
              refine qr_topI (fun v452 hv452 => ?_)
              have hs453 : 0 ≤ v452 ∧ v452 ≤ 31 := by rw [hv452]; exact hI.2.1 95 _ (show _ < 61 by omega)
              refine qr_iload_n 47 rfl g427 rfl ?_
              refine qr_icmp_ne 52 50 rfl rfl rfl (qrg hs453 (by decide) (by decide)) r1 (fun h454 => ?_) (fun h454 => ?_)
              · skip
                refine qr_iinc _ 55 rfl g429 (by decide) rfl rfl ?_
                refine qr_goto 2 rfl rfl ?_
                exact ih434 _ (u430 + 1) (by omega) (qm_gk g426 (by decide) (Or.inl (by decide))) (qm_gk g427 (by decide) (Or.inl (by decide))) (qm_gk g428 (by decide) (Or.inr rfl)) (qm_ge _ _ _) (by omega) (fun k hk => by by_cases e : k = (u430 : Int).toNat; (rw [e]; omega); (exact hx432 k (by omega)))
              · skip
                refine qr_iconst 51 rfl rfl ?_
                refine qr_retZ rfl rfl (Or.inr rfl) (by decide) (by decide) ?_
                exact ⟨rfl, 1, rfl, (by decide), ⟨fun _ => ⟨(u430 : Int).toNat, by omega, by omega⟩, fun _ => rfl⟩⟩
  exact hL433 ((61 - 0 + 1 : Int)).toNat _ 0 (by omega) rfl rfl rfl rfl (by decide) (fun k hk => by omega)

set_option maxHeartbeats 4000000 in
set_option maxRecDepth 20000 in
/-- OneRoofModel.kin -/
theorem sf_184_86x {L : Nat} {xs : Nat → Int} {vb : Bool} {d : Nat} {σ α : Nat → Nat → Int} {κ : Nat → Option Nat} {ρ : Nat} {x1 : Int} {x2 : Int} (hI : qI σ α κ ρ) (r1 : (-2147483648) ≤ x1 ∧ x1 ≤ 2147483647) (r2 : (-2147483648) ≤ x2 ∧ x2 ≤ 2147483647) (p0 : σ 86 11 ≤ 60) : qm_T (qe L xs vb) (d + 3) 184 [.ref 86, .int (qz x1), .int (qz x2)] (qw σ α κ ρ) (fun r w' => ∃ σ' α', w' = qw σ' α' κ ρ ∧ qI σ' α' κ ρ ∧ qFr [(86, 11), (86, 15)] [94, 95] σ α σ' α' ∧ ∃ v : Int, r = some (.int (qz v)) ∧ ((-2147483648) ≤ v ∧ v ≤ 2147483647) ∧ ((((v = -1 ∧ σ' 86 11 = σ 86 11) ∧ ((0 ≤ x1 ∧ x1 < σ 86 6 ∧ 0 ≤ x2 ∧ x2 < σ 86 6 ∧ ¬ x1 = x2) → qAj (α 94) (α 95) (σ 86 11) x1 x2)) ∧ α' 94 = α 94 ∧ α' 95 = α 95) ∨ (((v = -3 ∧ (0 ≤ x1 ∧ x1 < σ 86 6 ∧ 0 ≤ x2 ∧ x2 < σ 86 6 ∧ ¬ x1 = x2) ∧ 60 ≤ σ 86 11 ∧ σ' 86 11 = σ 86 11) ∧ ¬ qAj (α 94) (α 95) (σ 86 11) x1 x2) ∧ α' 94 = α 94 ∧ α' 95 = α 95) ∨ (((v = σ 86 11 + 1 ∧ (0 ≤ x1 ∧ x1 < σ 86 6 ∧ 0 ≤ x2 ∧ x2 < σ 86 6 ∧ ¬ x1 = x2) ∧ σ 86 11 < 60 ∧ σ' 86 11 = σ 86 11 + 1 ∧ σ' 86 15 = 0) ∧ ¬ qAj (α 94) (α 95) (σ 86 11) x1 x2) ∧ α' 94 = qzu (α 94) (v - 1 : Int).toNat (x1) ∧ α' 95 = qzu (α 95) (v - 1 : Int).toNat (x2)))) := by
  refine qr_start (d := d + 2) qv_e184 (Nat.le_of_ble_eq_true rfl) ?_
  show qr_W (qe L xs vb) (d + 2) qx_e184 _ (0, [(0, .ref 86), (1, .int (qz x1)), (2, .int (qz x2))], [], _, 0, 0)
  have hF0 := qFr_rf [(86, 11), (86, 15)] [94, 95] σ α
  have hz86_11 : 0 ≤ σ 86 11 ∧ σ 86 11 ≤ 61 := hI.1 86 11
  have hz86_6 : 0 ≤ σ 86 6 ∧ σ 86 6 ≤ 32 := hI.1 86 6
  refine qr_aload_n 1 rfl rfl rfl ?_
  refine qr_iload_n 2 rfl rfl rfl ?_
  refine qr_callN 5 rfl rfl rfl (sf_180_86 (d := d + 0) hI r1) ?_
  have hs3 : 0 ≤ σ 86 6 ∧ σ 86 6 ≤ 32 := hI.1 86 6
  rintro _ _ ⟨rfl, v1, rfl, hv1, hp2⟩
  show qr_W (qe L xs vb) (d + 2) qx_e184 _ (5, _, [.int (qz v1)], qw σ α κ ρ, 0, 0)
  refine qr_if_eq 30 8 rfl rfl rfl (qrg hv1 (by decide) (by decide)) (fun h4 => ?_) (fun h4 => ?_)
  · skip
    refine qr_iconst 31 rfl rfl ?_
    refine qr_retI rfl rfl (by decide) (by decide) ?_
    have hw5 : σ 86 11 = (σ 86 11) := rfl
    exact ⟨_, _, rfl, hI, hF0, (-1), rfl, (by decide), (Or.inl ⟨⟨by omega, fun h => False.elim (by omega)⟩, rfl, rfl⟩)⟩
  · skip
    refine qr_aload_n 9 rfl rfl rfl ?_
    refine qr_iload_n 10 rfl rfl rfl ?_
    refine qr_callN 13 rfl rfl rfl (sf_180_86 (d := d + 0) hI r2) ?_
    have hs8 : 0 ≤ σ 86 6 ∧ σ 86 6 ≤ 32 := hI.1 86 6
    rintro _ _ ⟨rfl, v6, rfl, hv6, hp7⟩
    show qr_W (qe L xs vb) (d + 2) qx_e184 _ (13, _, [.int (qz v6)], qw σ α κ ρ, 0, 0)
    refine qr_if_eq 30 16 rfl rfl rfl (qrg hv6 (by decide) (by decide)) (fun h9 => ?_) (fun h9 => ?_)
    · skip
      refine qr_iconst 31 rfl rfl ?_
      refine qr_retI rfl rfl (by decide) (by decide) ?_
      have hw10 : σ 86 11 = (σ 86 11) := rfl
      exact ⟨_, _, rfl, hI, hF0, (-1), rfl, (by decide), (Or.inl ⟨⟨by omega, fun h => False.elim (by omega)⟩, rfl, rfl⟩)⟩
    · skip
      refine qr_iload_n 17 rfl rfl rfl ?_
      refine qr_iload_n 18 rfl rfl rfl ?_
      refine qr_icmp_eq 30 21 rfl rfl rfl r1 r2 (fun h11 => ?_) (fun h11 => ?_)
      · skip
        refine qr_iconst 31 rfl rfl ?_
        refine qr_retI rfl rfl (by decide) (by decide) ?_
        have hw12 : σ 86 11 = (σ 86 11) := rfl
        exact ⟨_, _, rfl, hI, hF0, (-1), rfl, (by decide), (Or.inl ⟨⟨by omega, fun h => False.elim (by omega)⟩, rfl, rfl⟩)⟩
      · skip
        refine qr_aload_n 22 rfl rfl rfl ?_
        refine qr_iload_n 23 rfl rfl rfl ?_
        refine qr_iload_n 24 rfl rfl rfl ?_
        refine qr_callN 27 rfl rfl rfl (sf_185_86x (d := d + 1) hI r1 r2) ?_
        rintro _ _ ⟨rfl, v13, rfl, hv13, hx14⟩
        show qr_W (qe L xs vb) (d + 2) qx_e184 _ (27, _, [.int (qz v13)], qw σ α κ ρ, 0, 0)
        refine qr_if_eq 32 30 rfl rfl rfl (qrg hv13 (by decide) (by decide)) (fun h15 => ?_) (fun h15 => ?_)
        · skip
          refine qr_aload_n 33 rfl rfl rfl ?_
          refine qr_get 36 rfl rfl rfl (by decide) rfl ?_
          refine qr_bipush 38 rfl (by decide) rfl ?_
          refine qr_icmp_ne 44 41 rfl rfl rfl (qrg hz86_11 (by decide) (by decide)) (by decide) (fun h16 => ?_) (fun h16 => ?_)
          · skip
            refine qr_aload_n 45 rfl rfl rfl ?_
            refine qr_get 48 rfl rfl rfl (by decide) rfl ?_
            refine qr_aload_n 49 rfl rfl rfl ?_
            refine qr_get 52 rfl rfl rfl (by decide) rfl ?_
            refine qr_iload_n 53 rfl rfl rfl ?_
            refine qr_iastore 54 rfl (by decide) rfl (by omega) (by decide) rfl ?_
            refine qy_wA (qw_r α 94 (qzu (α 94) ((σ 86 11) : Int).toNat x1)) rfl (fun α17 e18 => ?_)
            have hI19 : qI σ α17 κ ρ := by rw [e18]; exact qI_r94 hI _ (show 0 ≤ x1 ∧ x1 ≤ 31 by omega) (by omega)
            have hF20 : qFr [(86, 11), (86, 15)] [94, 95] σ α σ α17 := by rw [e18]; exact qFr_r hF0 94 _ (by decide)
            refine qr_aload_n 55 rfl rfl rfl ?_
            refine qr_get 58 rfl rfl rfl (by decide) rfl ?_
            refine qr_aload_n 59 rfl rfl rfl ?_
            refine qr_get 62 rfl rfl rfl (by decide) rfl ?_
            refine qr_iload_n 63 rfl rfl rfl ?_
            refine qr_iastore 64 rfl (by decide) rfl (by omega) (by decide) rfl ?_
            refine qy_wA (qw_r α17 95 (qzu (α17 95) ((σ 86 11) : Int).toNat x2)) rfl (fun α21 e22 => ?_)
            have hI23 : qI σ α21 κ ρ := by rw [e22]; exact qI_r95 hI19 _ (show 0 ≤ x2 ∧ x2 ≤ 31 by omega) (by omega)
            have hF24 : qFr [(86, 11), (86, 15)] [94, 95] σ α σ α21 := by rw [e22]; exact qFr_r hF20 95 _ (by decide)
            refine qr_aload_n 65 rfl rfl rfl ?_
            refine qr_iconst 66 rfl rfl ?_
            refine qr_put 69 rfl (by decide) rfl (Nat.le_of_ble_eq_true rfl) (Nat.le_of_ble_eq_true rfl) (Or.inl rfl) (qr_fitZ rfl (Or.inl rfl)) rfl ?_
            refine qy_wS (qw_s σ 86 15 0) rfl (fun σ25 e26 => ?_)
            have hI27 : qI σ25 α21 κ ρ := by rw [e26]; exact qI_s15z hI23
            have hF28 : qFr [(86, 11), (86, 15)] [94, 95] σ α σ25 α21 := by rw [e26]; exact qFr_s hF24 86 15 _ (by decide)
            refine qr_aload_n 70 rfl rfl rfl ?_
            refine qr_dup 71 rfl rfl rfl ?_
            refine qr_get 74 rfl rfl rfl (by decide) rfl ?_
            refine qy_v (σ 86 11) ((congrFun (congrFun e26 86) 11).trans rfl) ?_
            refine qr_iconst 75 rfl rfl ?_
            refine qr_iadd 76 rfl rfl ?_
            refine qr_put 79 rfl (by decide) rfl (Nat.le_of_ble_eq_true rfl) (Nat.le_of_ble_eq_true rfl) (Or.inl rfl) (qr_fitI rfl _) rfl ?_
            refine qy_wS (qw_s σ25 86 11 ((σ 86 11) + 1)) rfl (fun σ29 e30 => ?_)
            have hI31 : qI σ29 α21 κ ρ := by rw [e30]; exact qI_s11 hI27 (by omega) (by have hw : σ25 86 15 = 0 := (congrFun (congrFun e26 86) 15).trans rfl; omega) (qE_new hI27 (p := x1) (q := x2) (k := (σ 86 11 : Int).toNat) (by have hw : σ25 86 11 = σ 86 11 := (congrFun (congrFun e26 86) 11).trans rfl; omega) (by rw [e22, qw_r_ne (by decide), e18, qw_r_eq]; unfold qzu; rw [if_pos rfl]) (by rw [e22, qw_r_eq]; unfold qzu; rw [if_pos rfl]) (by have hw : σ25 86 6 = σ 86 6 := (congrFun (congrFun e26 86) 6).trans rfl; omega) (by have hw : σ25 86 6 = σ 86 6 := (congrFun (congrFun e26 86) 6).trans rfl; omega))
            have hF32 : qFr [(86, 11), (86, 15)] [94, 95] σ α σ29 α21 := by rw [e30]; exact qFr_s hF28 86 11 _ (by decide)
            refine qr_aload_n 80 rfl rfl rfl ?_
            refine qr_get 83 rfl rfl rfl (by decide) rfl ?_
            refine qy_v ((σ 86 11) + 1) ((congrFun (congrFun e30 86) 11).trans rfl) ?_
            refine qr_retI rfl rfl (by decide) (by decide) ?_
            have hw33 : σ29 86 11 = ((σ 86 11) + 1) := (congrFun (congrFun e30 86) 11).trans rfl
            have hw34 : σ29 86 15 = 0 := (congrFun (congrFun e30 86) 15).trans ((congrFun (congrFun e26 86) 15).trans rfl)
            exact ⟨_, _, rfl, hI31, hF32, ((σ 86 11) + 1), rfl, (by omega), (Or.inr (Or.inr (⟨⟨by omega, fun h => absurd (hx14.2 h) (by omega)⟩, (((congrFun e22 94).trans ((qw_r_ne (by decide)).trans ((congrFun e18 94).trans (qw_r_eq.trans (congrArg (fun f => qzu f ((σ 86 11) : Int).toNat x1) rfl))))).trans (by congr 1; omega)), (((congrFun e22 95).trans (qw_r_eq.trans (congrArg (fun f => qzu f ((σ 86 11) : Int).toNat x2) ((congrFun e18 95).trans ((qw_r_ne (by decide)).trans rfl))))).trans (by congr 1; omega))⟩)))⟩
          · skip
            refine qr_bipush 43 rfl (by decide) rfl ?_
            refine qr_retI rfl rfl (by decide) (by decide) ?_
            have hw35 : σ 86 11 = (σ 86 11) := rfl
            exact ⟨_, _, rfl, hI, hF0, (-3), rfl, (by decide), (Or.inr (Or.inl ⟨⟨by omega, fun h => absurd (hx14.2 h) (by omega)⟩, rfl, rfl⟩))⟩
        · skip
          refine qr_iconst 31 rfl rfl ?_
          refine qr_retI rfl rfl (by decide) (by decide) ?_
          have hw36 : σ 86 11 = (σ 86 11) := rfl
          exact ⟨_, _, rfl, hI, hF0, (-1), rfl, (by decide), (Or.inl ⟨⟨by omega, fun _ => hx14.1 (by omega)⟩, rfl, rfl⟩)⟩
end
section
/-! the ties both sides hold alike: how many, who they tie, and that the class's table is right -/
def qE (σ α : Nat → Nat → Int) : Prop := ∀ j : Nat, (j : Int) < σ 86 11 → (0 ≤ α 94 j ∧ α 94 j < σ 86 6) ∧ (0 ≤ α 95 j ∧ α 95 j < σ 86 6)
def qR2 (σ α : Nat → Nat → Int) : Prop := σ 23 1 = σ 86 11 ∧ qE σ α ∧ ∀ x y : Int, (0 ≤ x ∧ x < 32) → (0 ≤ y ∧ y < 32) → qDi (α 94) (α 95) (σ 86 11) (qTb (α 24) x y) x y
def qPn (A B : Nat → Int) (m a b t x y : Int) : Prop := 0 ≤ t ∧ (t < 99 → qWk (qAk A m a) (qAk B m b) (m + 1) t.toNat x y)
theorem qDi_adj {A B : Nat → Int} {m t p q : Int} (h : qDi A B m t p q) (hpq : ¬ p = q) : t = 1 ↔ qAj A B m p q := by
  constructor
  · intro e
    subst e
    obtain ⟨r, h1, h2⟩ := h.2.1 (by decide)
    have e2 : p = r := h1
    subst e2
    exact h2
  · intro ha
    have h1 := h.2.2 1 (qWk_one ha)
    have h0 := h.1
    by_cases e : t = 0
    · subst e
      exact absurd (show p = q from h.2.1 (by decide)) hpq
    · omega
theorem qPn_cl {A B : Nat → Int} {m a b : Int} (hm : 0 ≤ m) : qCl (qPn A B m a b) a b := by
  intro t1 t2 x y hx hy
  constructor
  · rintro ⟨h1, h2⟩ ⟨h3, h4⟩
    refine ⟨by omega, fun hl => ?_⟩
    have w := qWk_cat (qWk_cat (h2 (by omega)) (qWk_one (qAj_new (A := A) (B := B) (a := a) (b := b) hm))) (h4 (by omega))
    rw [show (t1 + t2 + 1).toNat = t1.toNat + 1 + t2.toNat by omega]
    exact w
  · rintro ⟨h1, h2⟩ ⟨h3, h4⟩
    refine ⟨by omega, fun hl => ?_⟩
    have w := qWk_cat (qWk_cat (h2 (by omega)) (qWk_one (qAj_sym (qAj_new (A := A) (B := B) (a := a) (b := b) hm)))) (h4 (by omega))
    rw [show (t1 + t2 + 1).toNat = t1.toNat + 1 + t2.toNat by omega]
    exact w
theorem qPn_0 {A B : Nat → Int} {m a b : Int} {f : Nat → Int} (hm : 0 ≤ m) (h : ∀ x y : Int, (0 ≤ x ∧ x < 32) → (0 ≤ y ∧ y < 32) → qDi A B m (qTb f x y) x y) : ∀ x y : Int, (0 ≤ x ∧ x < 32) → (0 ≤ y ∧ y < 32) → qPn A B m a b (qTb f x y) x y :=
  fun x y hx hy => ⟨(h x y hx hy).1.1, fun hl => qWk_old hm ((h x y hx hy).2.1 hl)⟩
theorem qDi_far {A B : Nat → Int} {m t p q n : Int} (hE : ∀ j : Nat, (j : Int) < m → (0 ≤ A j ∧ A j < n) ∧ (0 ≤ B j ∧ B j < n)) (h : qDi A B m t p q) (hp : n ≤ p) (hpq : ¬ p = q) : t = 99 := by
  by_cases e : t < 99
  · refine absurd (qWk_iso (fun r ha => ?_) (h.2.1 e)) hpq
    obtain ⟨k, h1, h2⟩ := ha
    have h3 := hE k h1
    omega
  · have := h.1
    omega
theorem qDi_rev {A B : Nat → Int} {m t p q : Int} (h : qDi A B m t p q) : qDi A B m t q p := ⟨h.1, fun hl => qWk_rev (h.2.1 hl), fun n hw => h.2.2 n (qWk_rev hw)⟩
theorem rl_join {A B f g : Nat → Int} {m a b n : Int} (hm : 0 ≤ m) (ha : 0 ≤ a ∧ a < n) (hb : 0 ≤ b ∧ b < n) (hn : n ≤ 32) (hE : ∀ j : Nat, (j : Int) < m → (0 ≤ A j ∧ A j < n) ∧ (0 ≤ B j ∧ B j < n)) (h : ∀ x y : Int, (0 ≤ x ∧ x < 32) → (0 ≤ y ∧ y < 32) → qDi A B m (qTb f x y) x y) (hj : qJn (qPn A B m a b) f g a b n n 0) : ∀ x y : Int, (0 ≤ x ∧ x < 32) → (0 ≤ y ∧ y < 32) → qDi (qAk A m a) (qAk B m b) (m + 1) (qTb g x y) x y := by
  refine qDi_join (T := fun x y => qTb f x y) (U := fun x y => qTb g x y) hm (by omega) (by omega) (fun p q hq => ?_) h hj.1 (fun x y hx hy => hj.2.1 x y hx hy) (fun x y hx hy => ?_)
  · obtain ⟨k, h1, h2⟩ := hq
    have h3 := hE k h1
    omega
  · show qTb g x y ≤ qTb f x a + qTb f b y + 1 ∧ qTb g x y ≤ qTb f x b + qTb f a y + 1
    by_cases e1 : x < n
    · by_cases e2 : y < n
      · exact hj.2.2 x y hx.1 ⟨hy.1, e2⟩ (Or.inl e1)
      · have f1 := qDi_far hE (qDi_rev (h b y (by omega) hy)) (by omega) (by omega)
        have f2 := qDi_far hE (qDi_rev (h a y (by omega) hy)) (by omega) (by omega)
        have l := hj.1 x y hx hy
        have u := (h x y hx hy).1
        have u1 := (h x a hx (by omega)).1
        have u2 := (h x b hx (by omega)).1
        omega
    · have f1 := qDi_far hE (h x a hx (by omega)) (by omega) (by omega)
      have f2 := qDi_far hE (h x b hx (by omega)) (by omega) (by omega)
      have l := hj.1 x y hx hy
      have u := (h x y hx hy).1
      have u1 := (h b y (by omega) hy).1
      have u2 := (h a y (by omega) hy).1
      omega
set_option maxHeartbeats 4000000 in
theorem rl_kin {σ α σ1 α1 σ2 α2 : Nat → Nat → Int} {κ : Nat → Option Nat} {ρ : Nat} {x1 x2 v1 v2 : Int} (hI : qI σ α κ ρ) (hk : σ 86 11 ≤ 60) (hR : qR σ α) (hR2 : qR2 σ α) (hG1 : qFr [(23, 1)] [24] σ α σ1 α1) (hG2 : qFr [(86, 11), (86, 15)] [94, 95] σ1 α1 σ2 α2) (hx : ((v1 = -1 ∧ ¬ ((0 ≤ x1 ∧ x1 < σ 17 6 ∧ 0 ≤ x2 ∧ x2 < σ 17 6 ∧ ¬ x1 = x2) ∧ ¬ α 24 (x1 * 32 + x2 : Int).toNat = 1) ∧ σ1 23 1 = σ 23 1) ∧ α1 24 = α 24) ∨ ((v1 = -3 ∧ ((0 ≤ x1 ∧ x1 < σ 17 6 ∧ 0 ≤ x2 ∧ x2 < σ 17 6 ∧ ¬ x1 = x2) ∧ ¬ α 24 (x1 * 32 + x2 : Int).toNat = 1) ∧ 60 ≤ σ 23 1 ∧ σ1 23 1 = σ 23 1) ∧ α1 24 = α 24) ∨ (((v1 = σ 23 1 + 1 ∧ ((0 ≤ x1 ∧ x1 < σ 17 6 ∧ 0 ≤ x2 ∧ x2 < σ 17 6 ∧ ¬ x1 = x2) ∧ ¬ α 24 (x1 * 32 + x2 : Int).toNat = 1) ∧ σ 23 1 < 60 ∧ σ1 23 1 = σ 23 1 + 1) ∧ qJn (qPn (α 94) (α 95) (σ 86 11) x1 x2) (α 24) (α1 24) x1 x2 (σ 17 6) (σ 17 6) 0))) (hy : (((v2 = -1 ∧ σ2 86 11 = σ1 86 11) ∧ ((0 ≤ x1 ∧ x1 < σ1 86 6 ∧ 0 ≤ x2 ∧ x2 < σ1 86 6 ∧ ¬ x1 = x2) → qAj (α1 94) (α1 95) (σ1 86 11) x1 x2)) ∧ α2 94 = α1 94 ∧ α2 95 = α1 95) ∨ (((v2 = -3 ∧ (0 ≤ x1 ∧ x1 < σ1 86 6 ∧ 0 ≤ x2 ∧ x2 < σ1 86 6 ∧ ¬ x1 = x2) ∧ 60 ≤ σ1 86 11 ∧ σ2 86 11 = σ1 86 11) ∧ ¬ qAj (α1 94) (α1 95) (σ1 86 11) x1 x2) ∧ α2 94 = α1 94 ∧ α2 95 = α1 95) ∨ (((v2 = σ1 86 11 + 1 ∧ (0 ≤ x1 ∧ x1 < σ1 86 6 ∧ 0 ≤ x2 ∧ x2 < σ1 86 6 ∧ ¬ x1 = x2) ∧ σ1 86 11 < 60 ∧ σ2 86 11 = σ1 86 11 + 1 ∧ σ2 86 15 = 0) ∧ ¬ qAj (α1 94) (α1 95) (σ1 86 11) x1 x2) ∧ α2 94 = qzu (α1 94) (v2 - 1 : Int).toNat (x1) ∧ α2 95 = qzu (α1 95) (v2 - 1 : Int).toNat (x2))) : v1 = v2 ∧ qR σ2 α2 ∧ qR2 σ2 α2 := by
  have hr := qR_fr hG2 (by decide) (by decide) (qR_fr hG1 (by decide) (by decide) hR)
  have hn := hI.1 86 11
  have hn0 : 0 ≤ σ 86 11 := hn.1
  have hp : 0 ≤ σ 86 6 ∧ σ 86 6 ≤ 32 := hI.1 86 6
  have hq : σ 17 6 = σ 86 6 := hR.1
  obtain ⟨r1, r2, r3⟩ := hR2
  have c6 := hG1.1 86 6 (by decide)
  have c11 := hG1.1 86 11 (by decide)
  have c94 := hG1.2 94 (by decide)
  have c95 := hG1.2 95 (by decide)
  have d6 := hG2.1 86 6 (by decide)
  have d23 := hG2.1 23 1 (by decide)
  have d24 := hG2.2 24 (by decide)
  rw [c94, c95, c11, c6] at hy
  have ad : (0 ≤ x1 ∧ x1 < σ 86 6 ∧ 0 ≤ x2 ∧ x2 < σ 86 6 ∧ ¬ x1 = x2) → (α 24 (x1 * 32 + x2 : Int).toNat = 1 ↔ qAj (α 94) (α 95) (σ 86 11) x1 x2) := fun h => qDi_adj (r3 x1 x2 (by omega) (by omega)) (by omega)
  have same : σ2 23 1 = σ 23 1 → σ2 86 11 = σ 86 11 → α2 94 = α 94 → α2 95 = α 95 → α2 24 = α 24 → qR2 σ2 α2 := fun e1 e2 e3 e4 e5 => by
    unfold qR2 qE
    rw [e1, e2, e3, e4, e5, d6, c6]
    exact ⟨r1, r2, r3⟩
  rcases hx with ⟨x0, x24⟩ | ⟨x0, x24⟩ | ⟨x0, xj⟩
  · rcases hy with ⟨⟨y0, yi⟩, y94, y95⟩ | ⟨⟨y0, yi⟩, y94, y95⟩ | ⟨⟨y0, yi⟩, y94, y95⟩
    · exact ⟨by omega, hr, same (by omega) (by omega) y94 y95 (d24.trans x24)⟩
    · exact False.elim (yi ((ad (by omega)).1 (by omega)))
    · exact False.elim (yi ((ad (by omega)).1 (by omega)))
  · rcases hy with ⟨⟨y0, yi⟩, y94, y95⟩ | ⟨⟨y0, yi⟩, y94, y95⟩ | ⟨⟨y0, yi⟩, y94, y95⟩
    · exact absurd ((ad (by omega)).2 (yi (by omega))) (by omega)
    · exact ⟨by omega, hr, same (by omega) (by omega) y94 y95 (d24.trans x24)⟩
    · exact False.elim (by omega)
  · rcases hy with ⟨⟨y0, yi⟩, y94, y95⟩ | ⟨⟨y0, yi⟩, y94, y95⟩ | ⟨⟨y0, yi⟩, y94, y95⟩
    · exact absurd ((ad (by omega)).2 (yi (by omega))) (by omega)
    · exact False.elim (by omega)
    · have e : (v2 - 1 : Int).toNat = (σ 86 11).toNat := by omega
      rw [e] at y94 y95
      refine ⟨by omega, hr, by omega, ?_, ?_⟩
      · intro j hj
        rw [y94, y95]
        unfold qzu
        by_cases e2 : j = (σ 86 11).toNat
        · rw [if_pos e2, if_pos e2]
          omega
        · rw [if_neg e2, if_neg e2]
          have := r2 j (by omega)
          omega
      · rw [y94, y95, d24, show σ2 86 11 = σ 86 11 + 1 by omega]
        rw [hq] at xj
        exact rl_join hn0 (by omega) (by omega) hp.2 r2 r3 xj
end
section
theorem qR2_up {S : List (Nat × Nat)} {R : List Nat} {σ α σ' α' : Nat → Nat → Int} (hG : qFr S R σ α σ' α') (hs : [(23, 1), (86, 11)].all (fun x => !S.contains x) = true) (hr : [24, 94, 95].all (fun x => !R.contains x) = true) (h6 : σ 86 6 ≤ σ' 86 6) (h : qR2 σ α) : qR2 σ' α' := by
  have es : ∀ a k, (a, k) ∈ [(23, 1), (86, 11)] → σ' a k = σ a k := fun a k hm => hG.1 a k (fun hn => by
    have h1 := List.all_eq_true.mp hs (a, k) hm
    rw [List.contains_iff_mem.mpr hn] at h1
    exact absurd h1 (by decide))
  have er : ∀ a, a ∈ [24, 94, 95] → α' a = α a := fun a hm => hG.2 a (fun hn => by
    have h1 := List.all_eq_true.mp hr a hm
    rw [List.contains_iff_mem.mpr hn] at h1
    exact absurd h1 (by decide))
  obtain ⟨r1, r2, r3⟩ := h
  unfold qR2 qE
  rw [es 23 1 (by decide), es 86 11 (by decide), er 24 (by decide), er 94 (by decide), er 95 (by decide)]
  exact ⟨r1, fun j hj => by have := r2 j hj; omega, r3⟩
theorem qR2_fr {S : List (Nat × Nat)} {R : List Nat} {σ α σ' α' : Nat → Nat → Int} (hG : qFr S R σ α σ' α') (hs : [(23, 1), (86, 11), (86, 6)].all (fun x => !S.contains x) = true) (hr : [24, 94, 95].all (fun x => !R.contains x) = true) (h : qR2 σ α) : qR2 σ' α' := by
  have e6 : σ' 86 6 = σ 86 6 := hG.1 86 6 (fun hn => by
    have h1 := List.all_eq_true.mp hs (86, 6) (by decide)
    rw [List.contains_iff_mem.mpr hn] at h1
    exact absurd h1 (by decide))
  refine qR2_up hG ?_ hr (by omega) h
  rw [List.all_eq_true] at hs ⊢
  exact fun x hx => hs x (by revert x; decide)
theorem qR2_wd {S : List (Nat × Nat)} {R : List Nat} {σ α σ' α' : Nat → Nat → Int} (hG : qFr S R σ α σ' α') (hs : [(23, 1), (86, 6)].all (fun x => !S.contains x) = true) (hr : [24].all (fun x => !R.contains x) = true) (h11 : σ' 86 11 = σ 86 11) (hx : ∀ j : Nat, (j : Int) < σ 86 11 → α' 94 j = α 94 j ∧ α' 95 j = α 95 j) (h : qR2 σ α) : qR2 σ' α' := by
  have es : ∀ a k, (a, k) ∈ [(23, 1), (86, 6)] → σ' a k = σ a k := fun a k hm => hG.1 a k (fun hn => by
    have h1 := List.all_eq_true.mp hs (a, k) hm
    rw [List.contains_iff_mem.mpr hn] at h1
    exact absurd h1 (by decide))
  have er : ∀ a, a ∈ [24] → α' a = α a := fun a hm => hG.2 a (fun hn => by
    have h1 := List.all_eq_true.mp hr a hm
    rw [List.contains_iff_mem.mpr hn] at h1
    exact absurd h1 (by decide))
  obtain ⟨r1, r2, r3⟩ := h
  unfold qR2 qE
  rw [es 23 1 (by decide), es 86 6 (by decide), h11, er 24 (by decide)]
  refine ⟨r1, fun j hj => ?_, fun x y h1 h2 => qDi_cg (fun k hk => (hx k hk).1) (fun k hk => (hx k hk).2) (r3 x y h1 h2)⟩
  rw [(hx j hj).1, (hx j hj).2]
  exact r2 j hj

set_option maxHeartbeats 4000000 in
set_option maxRecDepth 20000 in
/-- OneRoofModel.wed -/
theorem sf_254_86x {L : Nat} {xs : Nat → Int} {vb : Bool} {d : Nat} {σ α : Nat → Nat → Int} {κ : Nat → Option Nat} {ρ : Nat} {x1 : Int} {x2 : Int} {x3 : Int} (hI : qI σ α κ ρ) (r1 : (-2147483648) ≤ x1 ∧ x1 ≤ 2147483647) (r2 : (-2147483648) ≤ x2 ∧ x2 ≤ 2147483647) (r3 : (-2147483648) ≤ x3 ∧ x3 ≤ 2147483647) (p0 : σ 86 11 ≤ 60) : qm_T (qe L xs vb) (d + 6) 254 [.ref 86, .int (qz x1), .int (qz x2), .int (qz x3)] (qw σ α κ ρ) (fun r w' => ∃ σ' α', w' = qw σ' α' κ ρ ∧ qI σ' α' κ ρ ∧ qFr [(86, 11), (86, 15), (86, 23)] [94, 95, 96, 119] σ α σ' α' ∧ σ' 86 11 = σ 86 11 ∧ ∃ v : Int, r = some (.int (qz v)) ∧ ((-2147483648) ≤ v ∧ v ≤ 2147483647) ∧ (∀ j : Nat, (j : Int) < σ 86 11 → α' 94 j = α 94 j ∧ α' 95 j = α 95 j)) := by
  refine qr_start (d := d + 5) qv_e254 (Nat.le_of_ble_eq_true rfl) ?_
  show qr_W (qe L xs vb) (d + 5) qx_e254 _ (0, [(0, .ref 86), (1, .int (qz x1)), (2, .int (qz x2)), (3, .int (qz x3))], [], _, 0, 0)
  have hF0 := qFr_rf [(86, 11), (86, 15), (86, 23)] [94, 95, 96, 119] σ α
  have hz86_11 : 0 ≤ σ 86 11 ∧ σ 86 11 ≤ 61 := hI.1 86 11
  have hz86_6 : 0 ≤ σ 86 6 ∧ σ 86 6 ≤ 32 := hI.1 86 6
  refine qr_aload_n 1 rfl rfl rfl ?_
  refine qr_iload_n 2 rfl rfl rfl ?_
  refine qr_callN 5 rfl rfl rfl (sf_191_86 (d := d + 2) hI r1) ?_
  have hs3 : 0 ≤ σ 86 6 ∧ σ 86 6 ≤ 32 := hI.1 86 6
  rintro _ _ ⟨rfl, v1, rfl, hv1, hp2⟩
  show qr_W (qe L xs vb) (d + 5) qx_e254 _ (5, _, [.int (qz v1)], qw σ α κ ρ, 0, 0)
  refine qr_if_eq 40 8 rfl rfl rfl (qrg hv1 (by decide) (by decide)) (fun h4 => ?_) (fun h4 => ?_)
  · skip
    refine qr_iconst 41 rfl rfl ?_
    refine qr_retI rfl rfl (by decide) (by decide) ?_
    exact ⟨_, _, rfl, hI, hF0, (by have hw : σ 86 11 = (σ 86 11) := rfl; omega), (-1), rfl, (by decide), (fun j hj => ⟨rfl, rfl⟩)⟩
  · skip
    refine qr_aload_n 9 rfl rfl rfl ?_
    refine qr_iload_n 10 rfl rfl rfl ?_
    refine qr_bipush 12 rfl (by decide) rfl ?_
    refine qr_idiv 13 rfl (by omega) (by decide) rfl ?_
    refine qr_iload_n 14 rfl rfl rfl ?_
    refine qr_bipush 16 rfl (by decide) rfl ?_
    refine qr_irem 17 rfl (by omega) (by decide) rfl ?_
    refine qr_callN 20 rfl rfl rfl (sf_185_86 (d := d + 4) hI (by omega) (by omega)) ?_
    rintro _ _ ⟨rfl, v5, rfl, hv5⟩
    show qr_W (qe L xs vb) (d + 5) qx_e254 _ (20, _, [.int (qz v5)], qw σ α κ ρ, 0, 0)
    refine qr_if_ne 40 23 rfl rfl rfl (qrg hv5 (by decide) (by decide)) (fun h6 => ?_) (fun h6 => ?_)
    · skip
      refine qr_iconst 41 rfl rfl ?_
      refine qr_retI rfl rfl (by decide) (by decide) ?_
      exact ⟨_, _, rfl, hI, hF0, (by have hw : σ 86 11 = (σ 86 11) := rfl; omega), (-1), rfl, (by decide), (fun j hj => ⟨rfl, rfl⟩)⟩
    · skip
      refine qr_iload_n 24 rfl rfl rfl ?_
      refine qr_callN 27 rfl rfl rfl (sf_192 (d := d + 3) hI r2) ?_
      rintro _ _ ⟨rfl, v7, rfl, hv7, hp8⟩
      show qr_W (qe L xs vb) (d + 5) qx_e254 _ (27, _, [.int (qz v7)], qw σ α κ ρ, 0, 0)
      refine qr_if_eq 40 30 rfl rfl rfl (qrg hv7 (by decide) (by decide)) (fun h9 => ?_) (fun h9 => ?_)
      · skip
        refine qr_iconst 41 rfl rfl ?_
        refine qr_retI rfl rfl (by decide) (by decide) ?_
        exact ⟨_, _, rfl, hI, hF0, (by have hw : σ 86 11 = (σ 86 11) := rfl; omega), (-1), rfl, (by decide), (fun j hj => ⟨rfl, rfl⟩)⟩
      · skip
        refine qr_iload_n 31 rfl rfl rfl ?_
        refine qr_i2l 32 rfl r3 rfl ?_
        refine qr_lconst 33 rfl rfl ?_
        refine qy_vl 0 rfl ?_
        refine qr_lconst 34 rfl rfl ?_
        refine qy_vl 1 rfl ?_
        refine qr_callN 37 rfl rfl rfl (sf_176 (d := d + 4) hI (qrg r3 (by decide) (by decide)) (by decide) (by decide)) ?_
        rintro _ _ ⟨rfl, v10, rfl, hv10, hp11⟩
        show qr_W (qe L xs vb) (d + 5) qx_e254 _ (37, _, [.int (qz v10)], qw σ α κ ρ, 0, 0)
        refine qr_if_ne 42 40 rfl rfl rfl (qrg hv10 (by decide) (by decide)) (fun h12 => ?_) (fun h12 => ?_)
        · skip
          refine qr_iconst 43 rfl rfl ?_
          refine qr_istore _ 45 rfl (by decide) rfl rfl ?_
          refine qr_iconst 46 rfl rfl ?_
          refine qr_istore _ 48 rfl (by decide) rfl rfl ?_
          have hL353407 : ∀ (n : Nat) (ls : qm_L) (u353394 u353396 : Int) (σ353397 α353398 : Nat → Nat → Int), 32 - u353396 < (n : Int) → qm_get ls 0 = some (.ref 86) → qm_get ls 1 = some (.int (qz x1)) → qm_get ls 2 = some (.int (qz x2)) → qm_get ls 3 = some (.int (qz x3)) → qm_get ls 4 = some (.int (qz u353394)) → qm_get ls 5 = some (.int (qz u353396)) → ((-2147483648) ≤ u353394 ∧ u353394 ≤ 2147483647) → (0 ≤ u353396 ∧ u353396 ≤ 32) → qI σ353397 α353398 κ ρ → qFr [(86, 11), (86, 15), (86, 23)] [94, 95, 96, 119] σ α σ353397 α353398 → σ353397 86 6 = (σ 86 6) → σ353397 86 11 = (σ 86 11) → α353398 94 = (α 94) → α353398 95 = (α 95) → qr_W (qe L xs vb) (d + 5) qx_e254 (fun r w' => ∃ σ' α', w' = qw σ' α' κ ρ ∧ qI σ' α' κ ρ ∧ qFr [(86, 11), (86, 15), (86, 23)] [94, 95, 96, 119] σ α σ' α' ∧ σ' 86 11 = σ 86 11 ∧ ∃ v : Int, r = some (.int (qz v)) ∧ ((-2147483648) ≤ v ∧ v ≤ 2147483647) ∧ (∀ j : Nat, (j : Int) < σ 86 11 → α' 94 j = α 94 j ∧ α' 95 j = α 95 j)) (48, ls, [], qw σ353397 α353398 κ ρ, 0, 0) := by
            intro n
            induction n with
            | zero => intro ls u353394 u353396 σ353397 α353398 hm g353389 g353390 g353391 g353392 g353393 g353395 hf353405 hf353406 hI353399 hF353400 hk353401 hk353402 hk353403 hk353404; exact False.elim (by omega)
            | succ n ih353408 =>
              intro ls u353394 u353396 σ353397 α353398 hm g353389 g353390 g353391 g353392 g353393 g353395 hf353405 hf353406 hI353399 hF353400 hk353401 hk353402 hk353403 hk353404
              refine qr_iload 50 rfl g353395 rfl ?_
              refine qr_aload_n 51 rfl g353389 rfl ?_
              refine qr_get 54 rfl rfl rfl (by decide) rfl ?_
              refine qy_v (σ 86 6) ((hk353401).trans rfl) ?_
              refine qr_icmp_ge 148 57 rfl rfl rfl (qrg hf353406 (by decide) (by decide)) (qrg hz86_6 (by decide) (by decide)) (fun h354819 => ?_) (fun h354819 => ?_)
              · skip
                refine qr_iload_n 149 rfl g353392 rfl ?_
                refine qr_iconst 150 rfl rfl ?_
                refine qr_icmp_ne 156 153 rfl rfl rfl r3 (by decide) (fun h354820 => ?_) (fun h354820 => ?_)
                · skip
                  refine qr_aload_n 157 rfl g353389 rfl ?_
                  refine qr_get 160 rfl rfl rfl (by decide) rfl ?_
                  refine qr_aload_n 161 rfl g353389 rfl ?_
                  refine qr_get 164 rfl rfl rfl (by decide) rfl ?_
                  refine qy_v (σ 86 11) ((hk353402).trans rfl) ?_
                  refine qr_iload_n 165 rfl g353390 rfl ?_
                  refine qr_bipush 167 rfl (by decide) rfl ?_
                  refine qr_idiv 168 rfl (by omega) (by decide) rfl ?_
                  refine qr_iastore 169 rfl (by decide) rfl (by omega) (by decide) rfl ?_
                  refine qy_wA (qw_r α353398 94 (qzu (α353398 94) ((σ 86 11) : Int).toNat (x1 / 100))) rfl (fun α354821 e354822 => ?_)
                  have hI354823 : qI σ353397 α354821 κ ρ := by rw [e354822]; exact qI_r94 hI353399 _ (show 0 ≤ (x1 / 100) ∧ (x1 / 100) ≤ 31 by omega) (by omega)
                  have hF354824 : qFr [(86, 11), (86, 15), (86, 23)] [94, 95, 96, 119] σ α σ353397 α354821 := by rw [e354822]; exact qFr_r hF353400 94 _ (by decide)
                  refine qr_aload_n 170 rfl g353389 rfl ?_
                  refine qr_get 173 rfl rfl rfl (by decide) rfl ?_
                  refine qr_aload_n 174 rfl g353389 rfl ?_
                  refine qr_get 177 rfl rfl rfl (by decide) rfl ?_
                  refine qy_v (σ 86 11) ((hk353402).trans rfl) ?_
                  refine qr_iload_n 178 rfl g353390 rfl ?_
                  refine qr_bipush 180 rfl (by decide) rfl ?_
                  refine qr_irem 181 rfl (by omega) (by decide) rfl ?_
                  refine qr_iastore 182 rfl (by decide) rfl (by omega) (by decide) rfl ?_
                  refine qy_wA (qw_r α354821 95 (qzu (α354821 95) ((σ 86 11) : Int).toNat (x1 % 100))) rfl (fun α354825 e354826 => ?_)
                  have hI354827 : qI σ353397 α354825 κ ρ := by rw [e354826]; exact qI_r95 hI354823 _ (show 0 ≤ (x1 % 100) ∧ (x1 % 100) ≤ 31 by omega) (by omega)
                  have hF354828 : qFr [(86, 11), (86, 15), (86, 23)] [94, 95, 96, 119] σ α σ353397 α354825 := by rw [e354826]; exact qFr_r hF354824 95 _ (by decide)
                  refine qr_aload_n 183 rfl g353389 rfl ?_
                  refine qr_dup 184 rfl rfl rfl ?_
                  refine qr_get 187 rfl rfl rfl (by decide) rfl ?_
                  refine qy_v (σ 86 11) ((hk353402).trans rfl) ?_
                  refine qr_iconst 188 rfl rfl ?_
                  refine qr_iadd 189 rfl rfl ?_
                  refine qr_put 192 rfl (by decide) rfl (Nat.le_of_ble_eq_true rfl) (Nat.le_of_ble_eq_true rfl) (Or.inl rfl) (qr_fitI rfl _) rfl ?_
                  refine qy_wS (qw_s σ353397 86 11 ((σ 86 11) + 1)) rfl (fun σ354829 e354830 => ?_)
                  have hF354832 : qFr [(86, 11), (86, 15), (86, 23)] [94, 95, 96, 119] σ α σ354829 α354825 := by rw [e354830]; exact qFr_s hF354828 86 11 _ (by decide)
                  refine qr_aload_n 193 rfl g353389 rfl ?_
                  refine qr_iconst 194 rfl rfl ?_
                  refine qr_put 197 rfl (by decide) rfl (Nat.le_of_ble_eq_true rfl) (Nat.le_of_ble_eq_true rfl) (Or.inl rfl) (qr_fitZ rfl (Or.inl rfl)) rfl ?_
                  refine qy_wS (qw_s σ354829 86 15 0) rfl (fun σ354833 e354834 => ?_)
                  have hI354835 : qI σ354833 α354825 κ ρ := by rw [e354834, e354830]; exact qI_s1115 hI354827 (by omega) (qE_new hI354827 (p := (x1 / 100)) (q := (x1 % 100)) (k := ((σ 86 11) : Int).toNat) (by have hw : σ353397 86 11 = (σ 86 11) := (hk353402).trans rfl; omega) (by rw [e354826, qw_r_ne (by decide), e354822, qw_r_eq]; unfold qzu; rw [if_pos rfl]) (by rw [e354826, qw_r_eq]; unfold qzu; rw [if_pos rfl]) (by have hw : σ353397 86 6 = (σ 86 6) := (hk353401).trans rfl; omega) (by have hw : σ353397 86 6 = (σ 86 6) := (hk353401).trans rfl; omega))
                  have hF354836 : qFr [(86, 11), (86, 15), (86, 23)] [94, 95, 96, 119] σ α σ354833 α354825 := by rw [e354834]; exact qFr_s hF354832 86 15 _ (by decide)
                  refine qr_iconst 198 rfl rfl ?_
                  refine qr_istore _ 200 rfl (by decide) rfl rfl ?_
                  refine qr_iconst 201 rfl rfl ?_
                  refine qr_istore _ 203 rfl (by decide) rfl rfl ?_
                  have hL385185 : ∀ (n : Nat) (ls : qm_L) (u385172 u385174 : Int) (σ385175 α385176 : Nat → Nat → Int), 32 - u385174 < (n : Int) → qm_get ls 0 = some (.ref 86) → qm_get ls 2 = some (.int (qz x2)) → qm_get ls 5 = some (.int (qz u385172)) → qm_get ls 6 = some (.int (qz u385174)) → ((-2147483648) ≤ u385172 ∧ u385172 ≤ 2147483647) → (0 ≤ u385174 ∧ u385174 ≤ 32) → qI σ385175 α385176 κ ρ → qFr [(86, 11), (86, 15), (86, 23)] [94, 95, 96, 119] σ α σ385175 α385176 → σ385175 86 6 = (σ 86 6) → σ385175 86 11 = ((σ 86 11) + 1) → α385176 94 = (qzu (α 94) ((σ 86 11) : Int).toNat (x1 / 100)) → α385176 95 = (qzu (α 95) ((σ 86 11) : Int).toNat (x1 % 100)) → qr_W (qe L xs vb) (d + 5) qx_e254 (fun r w' => ∃ σ' α', w' = qw σ' α' κ ρ ∧ qI σ' α' κ ρ ∧ qFr [(86, 11), (86, 15), (86, 23)] [94, 95, 96, 119] σ α σ' α' ∧ σ' 86 11 = σ 86 11 ∧ ∃ v : Int, r = some (.int (qz v)) ∧ ((-2147483648) ≤ v ∧ v ≤ 2147483647) ∧ (∀ j : Nat, (j : Int) < σ 86 11 → α' 94 j = α 94 j ∧ α' 95 j = α 95 j)) (203, ls, [], qw σ385175 α385176 κ ρ, 0, 0) := by
                    intro n
                    induction n with
                    | zero => intro ls u385172 u385174 σ385175 α385176 hm g385169 g385170 g385171 g385173 hf385183 hf385184 hI385177 hF385178 hk385179 hk385180 hk385181 hk385182; exact False.elim (by omega)
                    | succ n ih385186 =>
                      intro ls u385172 u385174 σ385175 α385176 hm g385169 g385170 g385171 g385173 hf385183 hf385184 hI385177 hF385178 hk385179 hk385180 hk385181 hk385182
                      refine qr_iload 205 rfl g385173 rfl ?_
                      refine qr_aload_n 206 rfl g385169 rfl ?_
                      refine qr_get 209 rfl rfl rfl (by decide) rfl ?_
                      refine qy_v (σ 86 6) ((hk385179).trans rfl) ?_
                      refine qr_icmp_ge 292 212 rfl rfl rfl (qrg hf385184 (by decide) (by decide)) (qrg hz86_6 (by decide) (by decide)) (fun h386267 => ?_) (fun h386267 => ?_)
                      · skip
                        refine qr_aload_n 293 rfl g385169 rfl ?_
                        refine qr_dup 294 rfl rfl rfl ?_
                        refine qr_get 297 rfl rfl rfl (by decide) rfl ?_
                        refine qy_v ((σ 86 11) + 1) ((hk385180).trans rfl) ?_
                        refine qr_iconst 298 rfl rfl ?_
                        refine qr_isub 299 rfl rfl ?_
                        refine qr_put 302 rfl (by decide) rfl (Nat.le_of_ble_eq_true rfl) (Nat.le_of_ble_eq_true rfl) (Or.inl rfl) (qr_fitI rfl _) rfl ?_
                        refine qy_wS (qw_s σ385175 86 11 (((σ 86 11) + 1) - 1)) rfl (fun σ386268 e386269 => ?_)
                        have hF386271 : qFr [(86, 11), (86, 15), (86, 23)] [94, 95, 96, 119] σ α σ386268 α385176 := by rw [e386269]; exact qFr_s hF385178 86 11 _ (by decide)
                        refine qr_aload_n 303 rfl g385169 rfl ?_
                        refine qr_iconst 304 rfl rfl ?_
                        refine qr_put 307 rfl (by decide) rfl (Nat.le_of_ble_eq_true rfl) (Nat.le_of_ble_eq_true rfl) (Or.inl rfl) (qr_fitZ rfl (Or.inl rfl)) rfl ?_
                        refine qy_wS (qw_s σ386268 86 15 0) rfl (fun σ386272 e386273 => ?_)
                        have hI386274 : qI σ386272 α385176 κ ρ := by rw [e386273, e386269]; exact qI_s1115 hI385177 (by omega) (qE_less hI385177 (by have hw : σ385175 86 11 = ((σ 86 11) + 1) := (hk385180).trans rfl; omega))
                        have hF386275 : qFr [(86, 11), (86, 15), (86, 23)] [94, 95, 96, 119] σ α σ386272 α385176 := by rw [e386273]; exact qFr_s hF386271 86 15 _ (by decide)
                        refine qr_iload 309 rfl g385171 rfl ?_
                        refine qr_retI rfl rfl (by decide) (by decide) ?_
                        exact ⟨_, _, rfl, hI386274, hF386275, (by have hw : σ386272 86 11 = (((σ 86 11) + 1) - 1) := (congrFun (congrFun e386273 86) 11).trans ((congrFun (congrFun e386269 86) 11).trans rfl); omega), u385172, rfl, hf385183, (fun j hj => by rw [hk385181, hk385182]; unfold qzu; rw [if_neg (by omega), if_neg (by omega)]; exact ⟨rfl, rfl⟩)⟩
                      · skip
                        refine qr_iconst 213 rfl rfl ?_
                        refine qr_istore _ 215 rfl (by decide) rfl rfl ?_
                        have hL387301 : ∀ (n : Nat) (ls : qm_L) (u387287 u387290 : Int) (σ387291 α387292 : Nat → Nat → Int), 31 - u387290 < (n : Int) → qm_get ls 0 = some (.ref 86) → qm_get ls 2 = some (.int (qz x2)) → qm_get ls 5 = some (.int (qz u387287)) → qm_get ls 6 = some (.int (qz u385174)) → qm_get ls 7 = some (.int (qz u387290)) → ((-2147483648) ≤ u387287 ∧ u387287 ≤ 2147483647) → (0 ≤ u387290 ∧ u387290 ≤ 31) → qI σ387291 α387292 κ ρ → qFr [(86, 11), (86, 15), (86, 23)] [94, 95, 96, 119] σ α σ387291 α387292 → σ387291 86 6 = (σ 86 6) → σ387291 86 11 = ((σ 86 11) + 1) → α387292 94 = (qzu (α 94) ((σ 86 11) : Int).toNat (x1 / 100)) → α387292 95 = (qzu (α 95) ((σ 86 11) : Int).toNat (x1 % 100)) → qr_W (qe L xs vb) (d + 5) qx_e254 (fun r w' => ∃ σ' α', w' = qw σ' α' κ ρ ∧ qI σ' α' κ ρ ∧ qFr [(86, 11), (86, 15), (86, 23)] [94, 95, 96, 119] σ α σ' α' ∧ σ' 86 11 = σ 86 11 ∧ ∃ v : Int, r = some (.int (qz v)) ∧ ((-2147483648) ≤ v ∧ v ≤ 2147483647) ∧ (∀ j : Nat, (j : Int) < σ 86 11 → α' 94 j = α 94 j ∧ α' 95 j = α 95 j)) (215, ls, [], qw σ387291 α387292 κ ρ, 0, 0) := by
                          intro n
                          induction n with
                          | zero => intro ls u387287 u387290 σ387291 α387292 hm g387284 g387285 g387286 g387288 g387289 hf387299 hf387300 hI387293 hF387294 hk387295 hk387296 hk387297 hk387298; exact False.elim (by omega)
                          | succ n ih387302 =>
                            intro ls u387287 u387290 σ387291 α387292 hm g387284 g387285 g387286 g387288 g387289 hf387299 hf387300 hI387293 hF387294 hk387295 hk387296 hk387297 hk387298
                            refine qr_iload 217 rfl g387289 rfl ?_
                            refine qr_iload 219 rfl g387288 rfl ?_
                            refine qr_icmp_ge 286 222 rfl rfl rfl (qrg hf387300 (by decide) (by decide)) (qrg hf385184 (by decide) (by decide)) (fun h387335 => ?_) (fun h387335 => ?_)
                            · skip
                              refine qr_iinc _ 289 rfl g387288 (by decide) rfl rfl ?_
                              refine qr_goto 203 rfl rfl ?_
                              exact ih385186 _ u387287 (u385174 + 1) σ387291 α387292 (by omega) (qm_gk g387284 (by decide) (Or.inl (by decide))) (qm_gk g387285 (by decide) (Or.inl (by decide))) (qm_gk g387286 (by decide) (Or.inr rfl)) (qm_ge _ _ _) hf387299 (by omega) hI387293 hF387294 ((hk387295).trans rfl) ((hk387296).trans rfl) hk387297 hk387298
                            · skip
                              refine qr_iload 224 rfl g387286 rfl ?_
                              refine qr_aload_n 225 rfl g387284 rfl ?_
                              refine qr_get 228 rfl rfl rfl (by decide) rfl ?_
                              refine qr_bipush 230 rfl (by decide) rfl ?_
                              refine qr_iload 232 rfl g387288 rfl ?_
                              refine qr_imul 233 rfl rfl ?_
                              refine qr_iload 235 rfl g387289 rfl ?_
                              refine qr_iadd 236 rfl rfl ?_
                              refine qr_baload 237 rfl (by decide) rfl (by omega) (by decide) rfl ?_
                              refine qr_topI (fun v387336 hv387336 => ?_)
                              have hs387337 : 0 ≤ v387336 ∧ v387336 ≤ 1 := by rw [hv387336]; exact hI387293.2.1 119 _ (show _ < 1024 by omega)
                              have hJ387360 : ∀ (ls : qm_L) (u387350 : Int) (σ387351 α387352 : Nat → Nat → Int), qm_get ls 0 = some (.ref 86) → qm_get ls 2 = some (.int (qz x2)) → qm_get ls 6 = some (.int (qz u385174)) → qm_get ls 7 = some (.int (qz u387290)) → (0 ≤ u387350 ∧ u387350 ≤ 1) → qI σ387351 α387352 κ ρ → qFr [(86, 11), (86, 15), (86, 23)] [94, 95, 96, 119] σ α σ387351 α387352 → σ387351 86 6 = (σ 86 6) → σ387351 86 11 = ((σ 86 11) + 1) → α387352 94 = (qzu (α 94) ((σ 86 11) : Int).toNat (x1 / 100)) → α387352 95 = (qzu (α 95) ((σ 86 11) : Int).toNat (x1 % 100)) → qr_W (qe L xs vb) (d + 5) qx_e254 (fun r w' => ∃ σ' α', w' = qw σ' α' κ ρ ∧ qI σ' α' κ ρ ∧ qFr [(86, 11), (86, 15), (86, 23)] [94, 95, 96, 119] σ α σ' α' ∧ σ' 86 11 = σ 86 11 ∧ ∃ v : Int, r = some (.int (qz v)) ∧ ((-2147483648) ≤ v ∧ v ≤ 2147483647) ∧ (∀ j : Nat, (j : Int) < σ 86 11 → α' 94 j = α 94 j ∧ α' 95 j = α 95 j)) (277, ls, [.int (qz u387350), .int (qz u387287)], qw σ387351 α387352 κ ρ, 0, 0) := by
                                intro ls u387350 σ387351 α387352 g387346 g387347 g387348 g387349 hf387359 hI387353 hF387354 hk387355 hk387356 hk387357 hk387358
                                refine qr_iadd 278 rfl rfl ?_
                                refine qy_can (fun v387361 hv387361 => ?_)
                                refine qr_istore _ 280 rfl (by decide) rfl rfl ?_
                                refine qr_iinc _ 283 rfl (qm_gk g387349 (by decide) (Or.inl (by decide))) (by decide) rfl rfl ?_
                                refine qr_goto 215 rfl rfl ?_
                                exact ih387302 _ v387361 (u387290 + 1) σ387351 α387352 (by omega) (qm_gk (qm_gk g387346 (by decide) (Or.inl (by decide))) (by decide) (Or.inl (by decide))) (qm_gk (qm_gk g387347 (by decide) (Or.inl (by decide))) (by decide) (Or.inl (by decide))) (qm_gk (qm_ge _ _ _) (by decide) (Or.inl (by decide))) (qm_gk (qm_gk g387348 (by decide) (Or.inl (by decide))) (by decide) (Or.inr rfl)) (qm_ge _ _ _) hv387361 (by omega) hI387353 hF387354 ((hk387355).trans rfl) ((hk387356).trans rfl) hk387357 hk387358
                              refine qr_if_ne 276 240 rfl rfl rfl (qrg hs387337 (by decide) (by decide)) (fun h387362 => ?_) (fun h387362 => ?_)
                              · skip
                                refine qr_iconst 277 rfl rfl ?_
                                exact hJ387360 _ 0 σ387291 α387292 g387284 g387285 g387288 g387289 (by decide) hI387293 hF387294 ((hk387295).trans rfl) ((hk387296).trans rfl) hk387297 hk387298
                              · skip
                                refine qr_aload_n 241 rfl g387284 rfl ?_
                                refine qr_iload 243 rfl g387288 rfl ?_
                                refine qr_callN 246 rfl rfl rfl (sf_181_86 (d := d + 4) hI387293 (qrg hf385184 (by decide) (by decide))) ?_
                                rintro _ _ ⟨rfl, v387363, rfl, hv387363⟩
                                show qr_W (qe L xs vb) (d + 5) qx_e254 _ (246, _, [.int (qz v387363), .int (qz u387287)], qw σ387291 α387292 κ ρ, 0, 0)
                                refine qr_if_ne 276 249 rfl rfl rfl (qrg hv387363 (by decide) (by decide)) (fun h387364 => ?_) (fun h387364 => ?_)
                                · skip
                                  refine qr_iconst 277 rfl rfl ?_
                                  exact hJ387360 _ 0 σ387291 α387292 g387284 g387285 g387288 g387289 (by decide) hI387293 hF387294 ((hk387295).trans rfl) ((hk387296).trans rfl) hk387297 hk387298
                                · skip
                                  refine qr_aload_n 250 rfl g387284 rfl ?_
                                  refine qr_iload 252 rfl g387289 rfl ?_
                                  refine qr_callN 255 rfl rfl rfl (sf_181_86 (d := d + 4) hI387293 (qrg hf387300 (by decide) (by decide))) ?_
                                  rintro _ _ ⟨rfl, v387365, rfl, hv387365⟩
                                  show qr_W (qe L xs vb) (d + 5) qx_e254 _ (255, _, [.int (qz v387365), .int (qz u387287)], qw σ387291 α387292 κ ρ, 0, 0)
                                  refine qr_if_ne 276 258 rfl rfl rfl (qrg hv387365 (by decide) (by decide)) (fun h387366 => ?_) (fun h387366 => ?_)
                                  · skip
                                    refine qr_iconst 277 rfl rfl ?_
                                    exact hJ387360 _ 0 σ387291 α387292 g387284 g387285 g387288 g387289 (by decide) hI387293 hF387294 ((hk387295).trans rfl) ((hk387296).trans rfl) hk387297 hk387298
                                  · skip
                                    refine qr_aload_n 259 rfl g387284 rfl ?_
                                    refine qr_iload 261 rfl g387288 rfl ?_
                                    refine qr_iload 263 rfl g387289 rfl ?_
                                    refine qr_iload_n 264 rfl g387285 rfl ?_
                                    refine qr_callN 267 rfl rfl rfl (sf_195_86 (d := d + 0) hI387293 (by omega) hf387300 r2) ?_
                                    rintro _ _ ⟨σ387368, α387369, rfl, hI387370, hG387371, v387367, rfl, hv387367⟩
                                    have hF387372 : qFr [(86, 11), (86, 15), (86, 23)] [94, 95, 96, 119] σ α σ387368 α387369 := qFr_t hF387294 hG387371 (by decide) (by decide)
                                    show qr_W (qe L xs vb) (d + 5) qx_e254 _ (267, _, [.int (qz v387367), .int (qz u387287)], qw σ387368 α387369 κ ρ, 0, 0)
                                    refine qr_bipush 269 rfl (by decide) rfl ?_
                                    refine qr_icmp_eq 276 272 rfl rfl rfl hv387367 (by decide) (fun h387373 => ?_) (fun h387373 => ?_)
                                    · skip
                                      refine qr_iconst 277 rfl rfl ?_
                                      exact hJ387360 _ 0 σ387368 α387369 g387284 g387285 g387288 g387289 (by decide) hI387370 hF387372 ((hG387371.1 86 6 (by decide)).trans ((hk387295).trans rfl)) ((hG387371.1 86 11 (by decide)).trans ((hk387296).trans rfl)) ((hG387371.2 94 (by decide)).trans hk387297) ((hG387371.2 95 (by decide)).trans hk387298)
                                    · skip
                                      refine qr_iconst 273 rfl rfl ?_
                                      refine qr_goto 277 rfl rfl ?_
                                      exact hJ387360 _ 1 σ387368 α387369 g387284 g387285 g387288 g387289 (by decide) hI387370 hF387372 ((hG387371.1 86 6 (by decide)).trans ((hk387295).trans rfl)) ((hG387371.1 86 11 (by decide)).trans ((hk387296).trans rfl)) ((hG387371.2 94 (by decide)).trans hk387297) ((hG387371.2 95 (by decide)).trans hk387298)
                        exact hL387301 ((31 - 0 + 1 : Int)).toNat _ u385172 0 σ385175 α385176 (by omega) (qm_gk g385169 (by decide) (Or.inl (by decide))) (qm_gk g385170 (by decide) (Or.inl (by decide))) (qm_gk g385171 (by decide) (Or.inl (by decide))) (qm_gk g385173 (by decide) (Or.inr rfl)) (qm_ge _ _ _) hf385183 (by decide) hI385177 hF385178 ((hk385179).trans rfl) ((hk385180).trans rfl) hk385181 hk385182
                  exact hL385185 ((32 - 0 + 1 : Int)).toNat _ 0 0 σ354833 α354825 (by omega) (qm_gk (qm_gk g353389 (by decide) (Or.inl (by decide))) (by decide) (Or.inl (by decide))) (qm_gk (qm_gk g353391 (by decide) (Or.inl (by decide))) (by decide) (Or.inl (by decide))) (qm_gk (qm_ge _ _ _) (by decide) (Or.inr rfl)) (qm_ge _ _ _) (by decide) (by decide) hI354835 hF354836 ((congrFun (congrFun e354834 86) 6).trans ((congrFun (congrFun e354830 86) 6).trans ((hk353401).trans rfl))) ((congrFun (congrFun e354834 86) 11).trans ((congrFun (congrFun e354830 86) 11).trans rfl)) ((congrFun e354826 94).trans ((qw_r_ne (by decide)).trans ((congrFun e354822 94).trans (qw_r_eq.trans (congrArg (fun f => qzu f ((σ 86 11) : Int).toNat (x1 / 100)) hk353403))))) ((congrFun e354826 95).trans (qw_r_eq.trans (congrArg (fun f => qzu f ((σ 86 11) : Int).toNat (x1 % 100)) ((congrFun e354822 95).trans ((qw_r_ne (by decide)).trans hk353404)))))
                · skip
                  refine qr_iload 155 rfl g353393 rfl ?_
                  refine qr_retI rfl rfl (by decide) (by decide) ?_
                  exact ⟨_, _, rfl, hI353399, hF353400, (by have hw : σ353397 86 11 = (σ 86 11) := (hk353402).trans rfl; omega), u353394, rfl, hf353405, (fun j hj => ⟨congrFun hk353403 j, congrFun hk353404 j⟩)⟩
              · skip
                refine qr_iconst 58 rfl rfl ?_
                refine qr_istore _ 60 rfl (by decide) rfl rfl ?_
                have hL388709 : ∀ (n : Nat) (ls : qm_L) (u388695 u388698 : Int) (σ388699 α388700 : Nat → Nat → Int), 31 - u388698 < (n : Int) → qm_get ls 0 = some (.ref 86) → qm_get ls 1 = some (.int (qz x1)) → qm_get ls 2 = some (.int (qz x2)) → qm_get ls 3 = some (.int (qz x3)) → qm_get ls 4 = some (.int (qz u388695)) → qm_get ls 5 = some (.int (qz u353396)) → qm_get ls 6 = some (.int (qz u388698)) → ((-2147483648) ≤ u388695 ∧ u388695 ≤ 2147483647) → (0 ≤ u388698 ∧ u388698 ≤ 31) → qI σ388699 α388700 κ ρ → qFr [(86, 11), (86, 15), (86, 23)] [94, 95, 96, 119] σ α σ388699 α388700 → σ388699 86 6 = (σ 86 6) → σ388699 86 11 = (σ 86 11) → α388700 94 = (α 94) → α388700 95 = (α 95) → qr_W (qe L xs vb) (d + 5) qx_e254 (fun r w' => ∃ σ' α', w' = qw σ' α' κ ρ ∧ qI σ' α' κ ρ ∧ qFr [(86, 11), (86, 15), (86, 23)] [94, 95, 96, 119] σ α σ' α' ∧ σ' 86 11 = σ 86 11 ∧ ∃ v : Int, r = some (.int (qz v)) ∧ ((-2147483648) ≤ v ∧ v ≤ 2147483647) ∧ (∀ j : Nat, (j : Int) < σ 86 11 → α' 94 j = α 94 j ∧ α' 95 j = α 95 j)) (60, ls, [], qw σ388699 α388700 κ ρ, 0, 0) := by
                  intro n
                  induction n with
                  | zero => intro ls u388695 u388698 σ388699 α388700 hm g388690 g388691 g388692 g388693 g388694 g388696 g388697 hf388707 hf388708 hI388701 hF388702 hk388703 hk388704 hk388705 hk388706; exact False.elim (by omega)
                  | succ n ih388710 =>
                    intro ls u388695 u388698 σ388699 α388700 hm g388690 g388691 g388692 g388693 g388694 g388696 g388697 hf388707 hf388708 hI388701 hF388702 hk388703 hk388704 hk388705 hk388706
                    refine qr_iload 62 rfl g388697 rfl ?_
                    refine qr_iload 64 rfl g388696 rfl ?_
                    refine qr_icmp_ge 142 67 rfl rfl rfl (qrg hf388708 (by decide) (by decide)) (qrg hf353406 (by decide) (by decide)) (fun h388754 => ?_) (fun h388754 => ?_)
                    · skip
                      refine qr_iinc _ 145 rfl g388696 (by decide) rfl rfl ?_
                      refine qr_goto 48 rfl rfl ?_
                      exact ih353408 _ u388695 (u353396 + 1) σ388699 α388700 (by omega) (qm_gk g388690 (by decide) (Or.inl (by decide))) (qm_gk g388691 (by decide) (Or.inl (by decide))) (qm_gk g388692 (by decide) (Or.inl (by decide))) (qm_gk g388693 (by decide) (Or.inl (by decide))) (qm_gk g388694 (by decide) (Or.inr rfl)) (qm_ge _ _ _) hf388707 (by omega) hI388701 hF388702 ((hk388703).trans rfl) ((hk388704).trans rfl) hk388705 hk388706
                    · skip
                      refine qr_aload_n 68 rfl g388690 rfl ?_
                      refine qr_iload 70 rfl g388696 rfl ?_
                      refine qr_callN 73 rfl rfl rfl (sf_181_86 (d := d + 4) hI388701 (qrg hf353406 (by decide) (by decide))) ?_
                      rintro _ _ ⟨rfl, v388755, rfl, hv388755⟩
                      show qr_W (qe L xs vb) (d + 5) qx_e254 _ (73, _, [.int (qz v388755)], qw σ388699 α388700 κ ρ, 0, 0)
                      have hJ388780 : ∀ (ls : qm_L) (u388770 : Int) (σ388771 α388772 : Nat → Nat → Int), qm_get ls 0 = some (.ref 86) → qm_get ls 1 = some (.int (qz x1)) → qm_get ls 2 = some (.int (qz x2)) → qm_get ls 3 = some (.int (qz x3)) → qm_get ls 4 = some (.int (qz u388695)) → qm_get ls 5 = some (.int (qz u353396)) → qm_get ls 6 = some (.int (qz u388698)) → (0 ≤ u388770 ∧ u388770 ≤ 1) → qI σ388771 α388772 κ ρ → qFr [(86, 11), (86, 15), (86, 23)] [94, 95, 96, 119] σ α σ388771 α388772 → σ388771 86 6 = (σ 86 6) → σ388771 86 11 = (σ 86 11) → α388772 94 = (α 94) → α388772 95 = (α 95) → qr_W (qe L xs vb) (d + 5) qx_e254 (fun r w' => ∃ σ' α', w' = qw σ' α' κ ρ ∧ qI σ' α' κ ρ ∧ qFr [(86, 11), (86, 15), (86, 23)] [94, 95, 96, 119] σ α σ' α' ∧ σ' 86 11 = σ 86 11 ∧ ∃ v : Int, r = some (.int (qz v)) ∧ ((-2147483648) ≤ v ∧ v ≤ 2147483647) ∧ (∀ j : Nat, (j : Int) < σ 86 11 → α' 94 j = α 94 j ∧ α' 95 j = α 95 j)) (104, ls, [.int (qz u388770)], qw σ388771 α388772 κ ρ, 0, 0) := by
                        intro ls u388770 σ388771 α388772 g388763 g388764 g388765 g388766 g388767 g388768 g388769 hf388779 hI388773 hF388774 hk388775 hk388776 hk388777 hk388778
                        refine qr_istore _ 106 rfl (by decide) rfl rfl ?_
                        refine qr_aload_n 107 rfl (qm_gk g388763 (by decide) (Or.inl (by decide))) rfl ?_
                        refine qr_get 110 rfl rfl rfl (by decide) rfl ?_
                        refine qr_bipush 112 rfl (by decide) rfl ?_
                        refine qr_iload 114 rfl (qm_gk g388768 (by decide) (Or.inl (by decide))) rfl ?_
                        refine qr_imul 115 rfl rfl ?_
                        refine qr_iload 117 rfl (qm_gk g388769 (by decide) (Or.inr rfl)) rfl ?_
                        refine qr_iadd 118 rfl rfl ?_
                        refine qr_iload 120 rfl (qm_ge _ _ _) rfl ?_
                        refine qr_bastore 121 rfl (by decide) rfl (by omega) (by decide) (by omega) rfl ?_
                        refine qy_wA (qw_r α388772 119 (qzu (α388772 119) (((32 * u353396) + u388698) : Int).toNat u388770)) rfl (fun α388781 e388782 => ?_)
                        have hI388783 : qI σ388771 α388781 κ ρ := by rw [e388782]; exact qI_r hI388773 119 _ rfl (show 0 ≤ u388770 ∧ u388770 ≤ 1 by omega)
                        have hF388784 : qFr [(86, 11), (86, 15), (86, 23)] [94, 95, 96, 119] σ α σ388771 α388781 := by rw [e388782]; exact qFr_r hF388774 119 _ (by decide)
                        refine qr_iload 123 rfl (qm_gk g388767 (by decide) (Or.inl (by decide))) rfl ?_
                        refine qr_iload 125 rfl (qm_ge _ _ _) rfl ?_
                        have hJ388793 : ∀ (ls : qm_L) (u388791 : Int), qm_get ls 0 = some (.ref 86) → qm_get ls 1 = some (.int (qz x1)) → qm_get ls 2 = some (.int (qz x2)) → qm_get ls 3 = some (.int (qz x3)) → qm_get ls 5 = some (.int (qz u353396)) → qm_get ls 6 = some (.int (qz u388698)) → (0 ≤ u388791 ∧ u388791 ≤ 1) → qr_W (qe L xs vb) (d + 5) qx_e254 (fun r w' => ∃ σ' α', w' = qw σ' α' κ ρ ∧ qI σ' α' κ ρ ∧ qFr [(86, 11), (86, 15), (86, 23)] [94, 95, 96, 119] σ α σ' α' ∧ σ' 86 11 = σ 86 11 ∧ ∃ v : Int, r = some (.int (qz v)) ∧ ((-2147483648) ≤ v ∧ v ≤ 2147483647) ∧ (∀ j : Nat, (j : Int) < σ 86 11 → α' 94 j = α 94 j ∧ α' 95 j = α 95 j)) (133, ls, [.int (qz u388791), .int (qz u388695)], qw σ388771 α388781 κ ρ, 0, 0) := by
                          intro ls u388791 g388785 g388786 g388787 g388788 g388789 g388790 hf388792
                          refine qr_iadd 134 rfl rfl ?_
                          refine qy_can (fun v388794 hv388794 => ?_)
                          refine qr_istore _ 136 rfl (by decide) rfl rfl ?_
                          refine qr_iinc _ 139 rfl (qm_gk g388790 (by decide) (Or.inl (by decide))) (by decide) rfl rfl ?_
                          refine qr_goto 60 rfl rfl ?_
                          exact ih388710 _ v388794 (u388698 + 1) σ388771 α388781 (by omega) (qm_gk (qm_gk g388785 (by decide) (Or.inl (by decide))) (by decide) (Or.inl (by decide))) (qm_gk (qm_gk g388786 (by decide) (Or.inl (by decide))) (by decide) (Or.inl (by decide))) (qm_gk (qm_gk g388787 (by decide) (Or.inl (by decide))) (by decide) (Or.inl (by decide))) (qm_gk (qm_gk g388788 (by decide) (Or.inr rfl)) (by decide) (Or.inl (by decide))) (qm_gk (qm_ge _ _ _) (by decide) (Or.inl (by decide))) (qm_gk (qm_gk g388789 (by decide) (Or.inl (by decide))) (by decide) (Or.inr rfl)) (qm_ge _ _ _) hv388794 (by omega) hI388783 hF388784 ((hk388775).trans rfl) ((hk388776).trans rfl) ((congrFun e388782 94).trans ((qw_r_ne (by decide)).trans hk388777)) ((congrFun e388782 95).trans ((qw_r_ne (by decide)).trans hk388778))
                        refine qr_if_eq 132 128 rfl rfl rfl (qrg hf388779 (by decide) (by decide)) (fun h388795 => ?_) (fun h388795 => ?_)
                        · skip
                          refine qr_iconst 133 rfl rfl ?_
                          exact hJ388793 _ 0 (qm_gk g388763 (by decide) (Or.inl (by decide))) (qm_gk g388764 (by decide) (Or.inl (by decide))) (qm_gk g388765 (by decide) (Or.inl (by decide))) (qm_gk g388766 (by decide) (Or.inl (by decide))) (qm_gk g388768 (by decide) (Or.inl (by decide))) (qm_gk g388769 (by decide) (Or.inr rfl)) (by decide)
                        · skip
                          refine qr_iconst 129 rfl rfl ?_
                          refine qr_goto 133 rfl rfl ?_
                          exact hJ388793 _ 1 (qm_gk g388763 (by decide) (Or.inl (by decide))) (qm_gk g388764 (by decide) (Or.inl (by decide))) (qm_gk g388765 (by decide) (Or.inl (by decide))) (qm_gk g388766 (by decide) (Or.inl (by decide))) (qm_gk g388768 (by decide) (Or.inl (by decide))) (qm_gk g388769 (by decide) (Or.inr rfl)) (by decide)
                      refine qr_if_ne 103 76 rfl rfl rfl (qrg hv388755 (by decide) (by decide)) (fun h388796 => ?_) (fun h388796 => ?_)
                      · skip
                        refine qr_iconst 104 rfl rfl ?_
                        exact hJ388780 _ 0 σ388699 α388700 g388690 g388691 g388692 g388693 g388694 g388696 g388697 (by decide) hI388701 hF388702 ((hk388703).trans rfl) ((hk388704).trans rfl) hk388705 hk388706
                      · skip
                        refine qr_aload_n 77 rfl g388690 rfl ?_
                        refine qr_iload 79 rfl g388697 rfl ?_
                        refine qr_callN 82 rfl rfl rfl (sf_181_86 (d := d + 4) hI388701 (qrg hf388708 (by decide) (by decide))) ?_
                        rintro _ _ ⟨rfl, v388797, rfl, hv388797⟩
                        show qr_W (qe L xs vb) (d + 5) qx_e254 _ (82, _, [.int (qz v388797)], qw σ388699 α388700 κ ρ, 0, 0)
                        refine qr_if_ne 103 85 rfl rfl rfl (qrg hv388797 (by decide) (by decide)) (fun h388798 => ?_) (fun h388798 => ?_)
                        · skip
                          refine qr_iconst 104 rfl rfl ?_
                          exact hJ388780 _ 0 σ388699 α388700 g388690 g388691 g388692 g388693 g388694 g388696 g388697 (by decide) hI388701 hF388702 ((hk388703).trans rfl) ((hk388704).trans rfl) hk388705 hk388706
                        · skip
                          refine qr_aload_n 86 rfl g388690 rfl ?_
                          refine qr_iload 88 rfl g388696 rfl ?_
                          refine qr_iload 90 rfl g388697 rfl ?_
                          refine qr_iload_n 91 rfl g388692 rfl ?_
                          refine qr_callN 94 rfl rfl rfl (sf_195_86 (d := d + 0) hI388701 (by omega) hf388708 r2) ?_
                          rintro _ _ ⟨σ388800, α388801, rfl, hI388802, hG388803, v388799, rfl, hv388799⟩
                          have hF388804 : qFr [(86, 11), (86, 15), (86, 23)] [94, 95, 96, 119] σ α σ388800 α388801 := qFr_t hF388702 hG388803 (by decide) (by decide)
                          show qr_W (qe L xs vb) (d + 5) qx_e254 _ (94, _, [.int (qz v388799)], qw σ388800 α388801 κ ρ, 0, 0)
                          refine qr_bipush 96 rfl (by decide) rfl ?_
                          refine qr_icmp_eq 103 99 rfl rfl rfl hv388799 (by decide) (fun h388805 => ?_) (fun h388805 => ?_)
                          · skip
                            refine qr_iconst 104 rfl rfl ?_
                            exact hJ388780 _ 0 σ388800 α388801 g388690 g388691 g388692 g388693 g388694 g388696 g388697 (by decide) hI388802 hF388804 ((hG388803.1 86 6 (by decide)).trans ((hk388703).trans rfl)) ((hG388803.1 86 11 (by decide)).trans ((hk388704).trans rfl)) ((hG388803.2 94 (by decide)).trans hk388705) ((hG388803.2 95 (by decide)).trans hk388706)
                          · skip
                            refine qr_iconst 100 rfl rfl ?_
                            refine qr_goto 104 rfl rfl ?_
                            exact hJ388780 _ 1 σ388800 α388801 g388690 g388691 g388692 g388693 g388694 g388696 g388697 (by decide) hI388802 hF388804 ((hG388803.1 86 6 (by decide)).trans ((hk388703).trans rfl)) ((hG388803.1 86 11 (by decide)).trans ((hk388704).trans rfl)) ((hG388803.2 94 (by decide)).trans hk388705) ((hG388803.2 95 (by decide)).trans hk388706)
                exact hL388709 ((31 - 0 + 1 : Int)).toNat _ u353394 0 σ353397 α353398 (by omega) (qm_gk g353389 (by decide) (Or.inl (by decide))) (qm_gk g353390 (by decide) (Or.inl (by decide))) (qm_gk g353391 (by decide) (Or.inl (by decide))) (qm_gk g353392 (by decide) (Or.inl (by decide))) (qm_gk g353393 (by decide) (Or.inl (by decide))) (qm_gk g353395 (by decide) (Or.inr rfl)) (qm_ge _ _ _) hf353405 (by decide) hI353399 hF353400 ((hk353401).trans rfl) ((hk353402).trans rfl) hk353403 hk353404
          exact hL353407 ((32 - 0 + 1 : Int)).toNat _ 0 0 σ α (by omega) rfl rfl rfl rfl rfl rfl (by decide) (by decide) hI hF0 (rfl) (rfl) rfl rfl
        · skip
          refine qr_iconst 41 rfl rfl ?_
          refine qr_retI rfl rfl (by decide) (by decide) ?_
          exact ⟨_, _, rfl, hI, hF0, (by have hw : σ 86 11 = (σ 86 11) := rfl; omega), (-1), rfl, (by decide), (fun j hj => ⟨rfl, rfl⟩)⟩
theorem qR2_0 {s g : Nat → Nat → Int} (hok : qo_ok s g) : qR2 (qJ_s s) (qJ_r g) := by
  refine ⟨rfl, fun j hj => absurd (show (j : Int) < 0 from hj) (by omega), fun x y hx hy => ?_⟩
  have e : qTb (qJ_r g 24) x y = g 24 (x * 32 + y).toNat := rfl
  have h := hok.2.2.1 24 (Or.inl rfl) (x * 32 + y : Int).toNat (by omega)
  rw [e, h]
  by_cases c : x = y
  · rw [if_pos (by omega)]
    exact ⟨by decide, fun _ => c, fun n _ => by omega⟩
  · rw [if_neg (by omega)]
    refine ⟨by decide, fun hl => absurd hl (by decide), fun n hw => absurd (qWk_iso (fun q ha => ?_) hw) c⟩
    obtain ⟨k, h1, h2⟩ := ha
    exact absurd (show (k : Int) < 0 from h1) (by omega)
end
section
/-! bits of longs; sums, rows of bits -/
theorem qlu_or (a b : Int) : qlu (ql_or a b) = qlu a ||| qlu b := by
  unfold qlu ql_or
  rw [← ql_of, Int64.toBitVec_or, BitVec.toNat_or]
theorem qlu_xor (a b : Int) : qlu (ql_xor a b) = qlu a ^^^ qlu b := by
  unfold qlu ql_xor
  rw [← ql_of, Int64.toBitVec_xor, BitVec.toNat_xor]
theorem qlu_m1 : qlu (-1) = 2 ^ 64 - 1 := by decide +kernel
theorem qlu_1s : ∀ p : Fin 64, qlu (ql_shl 1 ((p : Nat) : Int)) = 2 ^ (p : Nat) := by decide +kernel
theorem qbit_r (t i : Int) : 0 ≤ qbit t i ∧ qbit t i ≤ 1 := by
  unfold qbit
  omega
theorem qbit_if (t i : Int) : qbit t i = if (qlu t).testBit i.toNat = true then 1 else 0 := by
  unfold qbit
  rw [Nat.testBit_eq_decide_div_mod_eq]
  by_cases e : qlu t / 2 ^ i.toNat % 2 = 1
  · simp [e]
  · have h : qlu t / 2 ^ i.toNat % 2 = 0 := by omega
    simp [h]
theorem qbit_and (a b i : Int) : qbit (ql_and a b) i = if qbit a i = 1 ∧ qbit b i = 1 then 1 else 0 := by
  have h : qlu (ql_and a b) = qlu a &&& qlu b := qlu_and rfl
  rw [qbit_if (ql_and a b), qbit_if a, qbit_if b, h, Nat.testBit_and]
  cases (qlu a).testBit i.toNat <;> cases (qlu b).testBit i.toNat <;> simp
theorem qbit_or (a b i : Int) : qbit (ql_or a b) i = if qbit a i = 1 ∨ qbit b i = 1 then 1 else 0 := by
  rw [qbit_if (ql_or a b), qbit_if a, qbit_if b, qlu_or, Nat.testBit_or]
  cases (qlu a).testBit i.toNat <;> cases (qlu b).testBit i.toNat <;> simp
theorem qbit_not (a : Int) {i : Int} (h : 0 ≤ i ∧ i < 64) : qbit (ql_xor a (-1)) i = 1 - qbit a i := by
  rw [qbit_if (ql_xor a (-1)), qbit_if a, qlu_xor, qlu_m1, Nat.testBit_xor, Nat.testBit_two_pow_sub_one]
  have e : decide (i.toNat < 64) = true := by rw [decide_eq_true_eq]; omega
  rw [e]
  cases (qlu a).testBit i.toNat <;> simp
theorem qbit_shl {p i : Int} (hp : 0 ≤ p ∧ p < 64) (hi : 0 ≤ i) : qbit (ql_shl 1 p) i = if i = p then 1 else 0 := by
  obtain ⟨k, rfl⟩ : ∃ k : Nat, p = k := ⟨p.toNat, by omega⟩
  have h : qlu (ql_shl 1 (k : Int)) = 2 ^ k := qlu_1s ⟨k, by omega⟩
  rw [qbit_if, h, Nat.testBit_two_pow]
  by_cases e : i = k
  · rw [if_pos e, if_pos (by rw [decide_eq_true_eq]; omega)]
  · rw [if_neg e, if_neg (by rw [decide_eq_true_eq]; omega)]
theorem qbit_0 (i : Int) : qbit 0 i = 0 := by
  rw [qbit_if, show qlu 0 = 0 from by decide +kernel, Nat.zero_testBit]
  rfl
theorem qlu_hi (a : Int) {i : Nat} (h : 64 ≤ i) : (qlu a).testBit i = false := Nat.testBit_lt_two_pow (Nat.lt_of_lt_of_le (show qlu a < 2 ^ 64 from qlu_lt a) (Nat.pow_le_pow_right (by decide) h))
theorem qbit_ext {a b : Int} (ha : -9223372036854775808 ≤ a ∧ a ≤ 9223372036854775807) (hb : -9223372036854775808 ≤ b ∧ b ≤ 9223372036854775807) (h : ∀ i : Int, 0 ≤ i → i < 64 → qbit a i = qbit b i) : a = b := by
  have e : qlu a = qlu b := by
    refine Nat.eq_of_testBit_eq (fun i => ?_)
    by_cases hi : i < 64
    · have h1 := h (i : Int) (by omega) (by omega)
      rw [qbit_if, qbit_if b, Int.toNat_natCast] at h1
      revert h1
      cases (qlu a).testBit i <;> cases (qlu b).testBit i <;> simp
    · rw [qlu_hi a (by omega), qlu_hi b (by omega)]
  have h1 : ql a = ql b := Int64.toBitVec_inj.1 (BitVec.eq_of_toNat_eq e)
  have h2 := congrArg Int64.toInt h1
  rwa [ql_ti ha, ql_ti hb] at h2
theorem ql_or_r (a b : Int) : -9223372036854775808 ≤ ql_or a b ∧ ql_or a b ≤ 9223372036854775807 := ql_rng _
theorem ql_and_r (a b : Int) : -9223372036854775808 ≤ ql_and a b ∧ ql_and a b ≤ 9223372036854775807 := ql_rng _
theorem ql_xor_r (a b : Int) : -9223372036854775808 ≤ ql_xor a b ∧ ql_xor a b ≤ 9223372036854775807 := ql_rng _
theorem ql_shl_r (a b : Int) : -9223372036854775808 ≤ ql_shl a b ∧ ql_shl a b ≤ 9223372036854775807 := ql_rng _
/-- a long that a walk holds by its value is that value -/
theorem ql_val {v y : Int} (h : ql v = ql y) (hv : -9223372036854775808 ≤ v ∧ v ≤ 9223372036854775807) (hy : -9223372036854775808 ≤ y ∧ y ≤ 9223372036854775807) : v = y := (ql_eq hv hy).1 h
theorem qz_val {v y : Int} (h : qz v = qz y) (hv : -2147483648 ≤ v ∧ v ≤ 2147483647) (hy : -2147483648 ≤ y ∧ y ≤ 2147483647) : v = y := (qz_eq hv hy).1 h
/-- sums -/
def qsm (f : Nat → Int) : Nat → Int
  | 0 => 0
  | n + 1 => qsm f n + f n
theorem qsm_s (f : Nat → Int) {i : Int} (h : 0 ≤ i) : qsm f (i + 1).toNat = qsm f i.toNat + f i.toNat := by
  rw [show (i + 1).toNat = i.toNat + 1 by omega]
  rfl
theorem qsm_eq {f g : Nat → Int} : ∀ n : Nat, (∀ k, k < n → f k = g k) → qsm f n = qsm g n
  | 0, _ => rfl
  | n + 1, h => by
    show qsm f n + f n = qsm g n + g n
    rw [qsm_eq n (fun k hk => h k (by omega)), h n (by omega)]
theorem qsm_01 {f : Nat → Int} (h : ∀ k, 0 ≤ f k ∧ f k ≤ 1) : ∀ n : Nat, 0 ≤ qsm f n ∧ qsm f n ≤ n
  | 0 => by show (0 : Int) ≤ 0 ∧ (0 : Int) ≤ 0; omega
  | n + 1 => by
    have h1 := qsm_01 h n
    have h2 := h n
    show 0 ≤ qsm f n + f n ∧ qsm f n + f n ≤ ((n + 1 : Nat) : Int)
    omega
theorem qcn_sm (t : Int) : ∀ n : Nat, qcn t (n : Int) = qsm (fun k => qbit t (k : Int)) n
  | 0 => qcn_0 t
  | n + 1 => by
    have h1 := (qcn_s t (i := (n : Int)) (by omega)).1
    rw [show ((n + 1 : Nat) : Int) = (n : Int) + 1 by omega, h1, qcn_sm t n]
    rfl
/-- rows of bits -/
def qbs (f : Nat → Int) : Nat → Int
  | 0 => 0
  | n + 1 => if f n = 1 then ql_or (qbs f n) (ql_shl 1 (n : Int)) else qbs f n
theorem qbs_s (f : Nat → Int) {i : Int} (h : 0 ≤ i) : (f i.toNat = 1 ∧ qbs f (i + 1).toNat = ql_or (qbs f i.toNat) (ql_shl 1 i)) ∨ (¬ f i.toNat = 1 ∧ qbs f (i + 1).toNat = qbs f i.toNat) := by
  obtain ⟨n, rfl⟩ : ∃ n : Nat, i = n := ⟨i.toNat, by omega⟩
  rw [show ((n : Int) + 1).toNat = n + 1 by omega, Int.toNat_natCast]
  by_cases e : f n = 1
  · exact Or.inl ⟨e, if_pos e⟩
  · exact Or.inr ⟨e, if_neg e⟩
theorem qbs_r (f : Nat → Int) : ∀ n : Nat, -9223372036854775808 ≤ qbs f n ∧ qbs f n ≤ 9223372036854775807
  | 0 => by show (-9223372036854775808 : Int) ≤ 0 ∧ (0 : Int) ≤ 9223372036854775807; omega
  | n + 1 => by
    show -9223372036854775808 ≤ (if f n = 1 then ql_or (qbs f n) (ql_shl 1 (n : Int)) else qbs f n) ∧ (if f n = 1 then ql_or (qbs f n) (ql_shl 1 (n : Int)) else qbs f n) ≤ 9223372036854775807
    split
    · exact ql_or_r _ _
    · exact qbs_r f n
theorem qbs_bit (f : Nat → Int) {i : Int} (hi : 0 ≤ i) : ∀ n : Nat, n ≤ 64 → qbit (qbs f n) i = if i < (n : Int) ∧ f i.toNat = 1 then 1 else 0
  | 0, _ => by
    rw [if_neg (by omega)]
    exact qbit_0 i
  | n + 1, hn => by
    have ih := qbs_bit f hi n (by omega)
    show qbit (if f n = 1 then ql_or (qbs f n) (ql_shl 1 (n : Int)) else qbs f n) i = _
    by_cases e : f n = 1
    · rw [if_pos e, qbit_or, qbit_shl (by omega) hi, ih]
      by_cases e2 : i = (n : Int)
      · have e3 : i.toNat = n := by omega
        rw [if_pos (Or.inr (if_pos e2)), e3, if_pos ⟨by omega, e⟩]
      · by_cases e3 : i < (n : Int) ∧ f i.toNat = 1
        · rw [if_pos (Or.inl (if_pos e3)), if_pos ⟨by omega, e3.2⟩]
        · rw [if_neg (by rw [if_neg e3, if_neg e2]; omega), if_neg (fun h => e3 ⟨by omega, h.2⟩)]
    · rw [if_neg e, ih]
      by_cases e3 : i < (n : Int) ∧ f i.toNat = 1
      · rw [if_pos e3, if_pos ⟨by omega, e3.2⟩]
      · by_cases e2 : i = (n : Int)
        · have e4 : i.toNat = n := by omega
          rw [if_neg e3, if_neg (fun h => e (by rw [← e4]; exact h.2))]
        · rw [if_neg e3, if_neg (fun h => e3 ⟨by omega, h.2⟩)]
theorem qbs_eq {f g : Nat → Int} : ∀ n : Nat, (∀ k, k < n → f k = g k) → qbs f n = qbs g n
  | 0, _ => rfl
  | n + 1, h => by
    show (if f n = 1 then ql_or (qbs f n) (ql_shl 1 (n : Int)) else qbs f n) = (if g n = 1 then ql_or (qbs g n) (ql_shl 1 (n : Int)) else qbs g n)
    rw [qbs_eq n (fun k hk => h k (by omega)), h n (by omega)]
/-- a row of bits of numbers that are 0 or 1 holds as many as their sum -/
theorem qbs_cn {f : Nat → Int} (h : ∀ k, 0 ≤ f k ∧ f k ≤ 1) {n : Nat} (hn : n ≤ 64) : qcn (qbs f n) 64 = qsm f n := by
  have e := qcn_sm (qbs f n) 64
  rw [show ((64 : Nat) : Int) = 64 from rfl] at e
  rw [e]
  have g : ∀ m : Nat, m ≤ n → qsm (fun k => qbit (qbs f n) (k : Int)) m = qsm f m := fun m hm => qsm_eq m (fun k hk => by
    show qbit (qbs f n) (k : Int) = f k
    have hk2 := h k
    rw [qbs_bit f (by omega) n hn, Int.toNat_natCast]
    by_cases e1 : f k = 1
    · rw [if_pos ⟨by omega, e1⟩, e1]
    · rw [if_neg (fun z => e1 z.2)]
      omega)
  have g2 : ∀ m : Nat, qsm (fun k => qbit (qbs f n) (k : Int)) (n + m) = qsm f n := by
    intro m
    induction m with
    | zero => exact g n (Nat.le_refl n)
    | succ m ih =>
      show qsm (fun k => qbit (qbs f n) (k : Int)) (n + m) + qbit (qbs f n) ((n + m : Nat) : Int) = _
      rw [ih, qbs_bit f (by omega) n hn, if_neg (by omega)]
      omega
  have g3 := g2 (64 - n)
  rwa [show n + (64 - n) = 64 by omega] at g3
/-- two steps, how near by a feud: a, b one way about, c, d the other one -/
def qcl (a b c d t : Int) : Int := if c ≤ t ∧ d ≤ t ∧ c + d < (if a ≤ t ∧ b ≤ t then a + b else 9) then c + d else if a ≤ t ∧ b ≤ t then a + b else 9
theorem qcl_c (a b c d t : Int) : ((a ≤ t ∧ b ≤ t) ∧ ((c ≤ t ∧ d ≤ t ∧ c + d < a + b ∧ qcl a b c d t = c + d) ∨ (¬ (c ≤ t ∧ d ≤ t ∧ c + d < a + b) ∧ qcl a b c d t = a + b))) ∨ (¬ (a ≤ t ∧ b ≤ t) ∧ ((c ≤ t ∧ d ≤ t ∧ c + d < 9 ∧ qcl a b c d t = c + d) ∨ (¬ (c ≤ t ∧ d ≤ t ∧ c + d < 9) ∧ qcl a b c d t = 9))) := by
  unfold qcl
  by_cases e : a ≤ t ∧ b ≤ t
  · rw [if_pos e]
    by_cases e2 : c ≤ t ∧ d ≤ t ∧ c + d < a + b
    · rw [if_pos e2]
      exact Or.inl ⟨e, Or.inl ⟨e2.1, e2.2.1, e2.2.2, rfl⟩⟩
    · rw [if_neg e2]
      exact Or.inl ⟨e, Or.inr ⟨e2, rfl⟩⟩
  · rw [if_neg e]
    by_cases e2 : c ≤ t ∧ d ≤ t ∧ c + d < 9
    · rw [if_pos e2]
      exact Or.inr ⟨e, Or.inl ⟨e2.1, e2.2.1, e2.2.2, rfl⟩⟩
    · rw [if_neg e2]
      exact Or.inr ⟨e, Or.inr ⟨e2, rfl⟩⟩
/-- whether a feud is open at an hour: since, paid, whether it is paid in thought -/
def qop (sn pd st h : Int) : Int := if sn ≤ h ∧ (pd = 2400 ∨ h < pd) ∧ st = 0 then 1 else 0
theorem qop_c (sn pd st h : Int) : (qop sn pd st h = 1 ∧ sn ≤ h ∧ (pd = 2400 ∨ h < pd) ∧ st = 0) ∨ (qop sn pd st h = 0 ∧ ¬ (sn ≤ h ∧ (pd = 2400 ∨ h < pd) ∧ st = 0)) := by
  unfold qop
  split
  · next e => exact Or.inl ⟨rfl, e⟩
  · next e => exact Or.inr ⟨rfl, e⟩
/-- the nearest of the first feuds: 64 times how near, and its number; 576: none -/
def qnk (o c : Nat → Int) : Nat → Int
  | 0 => 576
  | n + 1 => if o n = 1 ∧ c n * 64 + (n : Int) < qnk o c n then c n * 64 + (n : Int) else qnk o c n
theorem qnk_s (o c : Nat → Int) {i : Int} (h : 0 ≤ i) : (o i.toNat = 1 ∧ c i.toNat * 64 + i < qnk o c i.toNat ∧ qnk o c (i + 1).toNat = c i.toNat * 64 + i) ∨ (¬ (o i.toNat = 1 ∧ c i.toNat * 64 + i < qnk o c i.toNat) ∧ qnk o c (i + 1).toNat = qnk o c i.toNat) := by
  obtain ⟨n, rfl⟩ : ∃ n : Nat, i = n := ⟨i.toNat, by omega⟩
  rw [show ((n : Int) + 1).toNat = n + 1 by omega, Int.toNat_natCast]
  by_cases e : o n = 1 ∧ c n * 64 + (n : Int) < qnk o c n
  · exact Or.inl ⟨e.1, e.2, if_pos e⟩
  · exact Or.inr ⟨e, if_neg e⟩
theorem qnk_eq {o c o' c' : Nat → Int} : ∀ n : Nat, (∀ k, k < n → o k = o' k ∧ c k = c' k) → qnk o c n = qnk o' c' n
  | 0, _ => rfl
  | n + 1, h => by
    show (if o n = 1 ∧ c n * 64 + (n : Int) < qnk o c n then c n * 64 + (n : Int) else qnk o c n) = (if o' n = 1 ∧ c' n * 64 + (n : Int) < qnk o' c' n then c' n * 64 + (n : Int) else qnk o' c' n)
    rw [qnk_eq n (fun k hk => h k (by omega)), (h n (by omega)).1, (h n (by omega)).2]
theorem qb63s : ∀ k : Fin 64, ((qz ((k : Nat) : Int)).toInt64 &&& 63).toBitVec.smod 64 = BitVec.ofNat 64 (k : Nat) := by decide +kernel
/-- whether a place of a long is set, by a shift that keeps the sign -/
theorem qbit_inS {t i v1 v2 : Int} (hi : 0 ≤ i ∧ i ≤ 63) (hr : -9223372036854775808 ≤ v2 ∧ v2 ≤ 9223372036854775807) (h1 : ql v1 = ql (ql_shr t i)) (h2 : ql v2 = ql (ql_and v1 1)) : v2 = qbit t i ∧ 0 ≤ v2 ∧ v2 ≤ 1 := by
  obtain ⟨m, rfl⟩ : ∃ m : Nat, i = m := ⟨i.toNat, by omega⟩
  have hm : m < 64 := by omega
  have g0 : (ql v1).toBitVec = (ql t).toBitVec.sshiftRight m := by
    rw [h1]
    unfold ql_shr
    rw [← ql_of, Int64.toBitVec_shiftRight, qb63s ⟨m, hm⟩]
    show (ql t).toBitVec.sshiftRight (BitVec.ofNat 64 m).toNat = _
    rw [BitVec.toNat_ofNat, Nat.mod_eq_of_lt (by omega)]
  have g3 : (qlu v1).testBit 0 = (qlu t).testBit m := by
    unfold qlu
    rw [BitVec.testBit_toNat, BitVec.testBit_toNat, g0, BitVec.getLsbD_sshiftRight]
    simp [hm]
  have g2 := qlu_and h2
  rw [show qlu 1 = 2 ^ 1 - 1 from by decide +kernel, Nat.and_two_pow_sub_one_eq_mod] at g2
  rw [Nat.testBit_eq_decide_div_mod_eq, Nat.testBit_eq_decide_div_mod_eq, decide_eq_decide] at g3
  have g4 := qlu_sm hr (by omega)
  have g5 : qlu v1 / 2 ^ 0 = qlu v1 := by rw [Nat.pow_zero, Nat.div_one]
  rw [g5] at g3
  unfold qbit
  rw [Int.toNat_natCast]
  omega
def qsh (f : Nat → Int) (k : Nat) : Nat → Int := fun j => f (k + j)
def qoF (sn pd : Nat → Int) (st h : Int) (f : Nat) : Int := qop (sn f) (pd f) (qbit st (f : Int)) h
def qcF (D : Int → Int → Int) (kd kr bd : Nat → Int) (p q : Int) (f : Nat) : Int := qcl (D p (kd f)) (D q (kr f)) (D q (kd f)) (D p (kr f)) (bd f)
/-- the nearest of all feuds -/
def qnF (D : Int → Int → Int) (kd kr bd sn pd : Nat → Int) (st n p q h : Int) : Int := qnk (qoF sn pd st h) (qcF D kd kr bd p q) n.toNat
theorem qoF_a (sn pd : Nat → Int) (st h : Int) {i : Int} (hi : 0 ≤ i) : qoF sn pd st h i.toNat = qop (sn i.toNat) (pd i.toNat) (qbit st i) h := by
  unfold qoF
  rw [Int.toNat_of_nonneg hi]
/-! bits of ints -/
def qlz (a : Int) : Nat := (qz a).toBitVec.toNat
theorem qlz_lt (a : Int) : qlz a < 4294967296 := (qz a).toBitVec.isLt
def qbi (t i : Int) : Int := ((qlz t / 2 ^ i.toNat % 2 : Nat) : Int)
theorem qlz_and {v a b : Int} (h : qz v = qz (qz_and a b)) : qlz v = qlz a &&& qlz b := by
  unfold qlz
  rw [h]
  unfold qz_and
  rw [← qz_of, Int32.toBitVec_and, BitVec.toNat_and]
theorem qlz_or (a b : Int) : qlz (qz_or a b) = qlz a ||| qlz b := by
  unfold qlz qz_or
  rw [← qz_of, Int32.toBitVec_or, BitVec.toNat_or]
theorem qlz_xor (a b : Int) : qlz (qz_xor a b) = qlz a ^^^ qlz b := by
  unfold qlz qz_xor
  rw [← qz_of, Int32.toBitVec_xor, BitVec.toNat_xor]
theorem qlz_m1 : qlz (-1) = 2 ^ 32 - 1 := by decide +kernel
theorem qlz_1s : ∀ p : Fin 32, qlz (qz_shl 1 ((p : Nat) : Int)) = 2 ^ (p : Nat) := by decide +kernel
theorem qbi_r (t i : Int) : 0 ≤ qbi t i ∧ qbi t i ≤ 1 := by
  unfold qbi
  omega
theorem qbi_if (t i : Int) : qbi t i = if (qlz t).testBit i.toNat = true then 1 else 0 := by
  unfold qbi
  rw [Nat.testBit_eq_decide_div_mod_eq]
  by_cases e : qlz t / 2 ^ i.toNat % 2 = 1
  · simp [e]
  · have h : qlz t / 2 ^ i.toNat % 2 = 0 := by omega
    simp [h]
theorem qbi_and (a b i : Int) : qbi (qz_and a b) i = if qbi a i = 1 ∧ qbi b i = 1 then 1 else 0 := by
  have h : qlz (qz_and a b) = qlz a &&& qlz b := qlz_and rfl
  rw [qbi_if (qz_and a b), qbi_if a, qbi_if b, h, Nat.testBit_and]
  cases (qlz a).testBit i.toNat <;> cases (qlz b).testBit i.toNat <;> simp
theorem qbi_or (a b i : Int) : qbi (qz_or a b) i = if qbi a i = 1 ∨ qbi b i = 1 then 1 else 0 := by
  rw [qbi_if (qz_or a b), qbi_if a, qbi_if b, qlz_or, Nat.testBit_or]
  cases (qlz a).testBit i.toNat <;> cases (qlz b).testBit i.toNat <;> simp
theorem qbi_not (a : Int) {i : Int} (h : 0 ≤ i ∧ i < 32) : qbi (qz_xor a (-1)) i = 1 - qbi a i := by
  rw [qbi_if (qz_xor a (-1)), qbi_if a, qlz_xor, qlz_m1, Nat.testBit_xor, Nat.testBit_two_pow_sub_one]
  have e : decide (i.toNat < 32) = true := by rw [decide_eq_true_eq]; omega
  rw [e]
  cases (qlz a).testBit i.toNat <;> simp
theorem qbi_shl {p i : Int} (hp : 0 ≤ p ∧ p < 32) (hi : 0 ≤ i) : qbi (qz_shl 1 p) i = if i = p then 1 else 0 := by
  obtain ⟨k, rfl⟩ : ∃ k : Nat, p = k := ⟨p.toNat, by omega⟩
  have h : qlz (qz_shl 1 (k : Int)) = 2 ^ k := qlz_1s ⟨k, by omega⟩
  rw [qbi_if, h, Nat.testBit_two_pow]
  by_cases e : i = k
  · rw [if_pos e, if_pos (by rw [decide_eq_true_eq]; omega)]
  · rw [if_neg e, if_neg (by rw [decide_eq_true_eq]; omega)]
theorem qlz_hi (a : Int) {i : Nat} (h : 32 ≤ i) : (qlz a).testBit i = false := Nat.testBit_lt_two_pow (Nat.lt_of_lt_of_le (show qlz a < 2 ^ 32 from qlz_lt a) (Nat.pow_le_pow_right (by decide) h))
theorem qbi_ext {a b : Int} (ha : -2147483648 ≤ a ∧ a ≤ 2147483647) (hb : -2147483648 ≤ b ∧ b ≤ 2147483647) (h : ∀ i : Int, 0 ≤ i → i < 32 → qbi a i = qbi b i) : a = b := by
  have e : qlz a = qlz b := by
    refine Nat.eq_of_testBit_eq (fun i => ?_)
    by_cases hi : i < 32
    · have h1 := h (i : Int) (by omega) (by omega)
      rw [qbi_if, qbi_if b, Int.toNat_natCast] at h1
      revert h1
      cases (qlz a).testBit i <;> cases (qlz b).testBit i <;> simp
    · rw [qlz_hi a (by omega), qlz_hi b (by omega)]
  have h1 : qz a = qz b := Int32.toBitVec_inj.1 (BitVec.eq_of_toNat_eq e)
  have h2 := congrArg Int32.toInt h1
  rwa [qz_ti ha, qz_ti hb] at h2
theorem qz_xor_r (a b : Int) : -2147483648 ≤ qz_xor a b ∧ qz_xor a b ≤ 2147483647 := qz_rng _
theorem qlz_nn {a : Int} (h : 0 ≤ a ∧ a ≤ 2147483647) : (qlz a : Int) = a := by
  have h1 : (qz a).toInt = a := qz_ti (by omega)
  have hm := qz_msb (x := qz a) (by rw [h1]; exact h.1)
  have h2 : (qz a).toInt = ((qz a).toBitVec.toNat : Int) := BitVec.toInt_eq_toNat_of_msb hm
  unfold qlz
  omega
theorem qb31s : ∀ k : Fin 32, (qz ((k : Nat) : Int) &&& 31).toBitVec.smod 32 = BitVec.ofNat 32 (k : Nat) := by decide +kernel
theorem qbi_inS {t i v1 v2 : Int} (hi : 0 ≤ i ∧ i ≤ 31) (h1 : qz v1 = qz (qz_shr t i)) (h2 : v2 = qz_and v1 1) (hr : 0 ≤ v2 ∧ v2 ≤ 1) : v2 = qbi t i := by
  obtain ⟨m, rfl⟩ : ∃ m : Nat, i = m := ⟨i.toNat, by omega⟩
  have hm : m < 32 := by omega
  have g0 : (qz v1).toBitVec = (qz t).toBitVec.sshiftRight m := by
    rw [h1]
    unfold qz_shr
    rw [← qz_of, Int32.toBitVec_shiftRight, qb31s ⟨m, hm⟩]
    show (qz t).toBitVec.sshiftRight (BitVec.ofNat 32 m).toNat = _
    rw [BitVec.toNat_ofNat, Nat.mod_eq_of_lt (by omega)]
  have g3 : (qlz v1).testBit 0 = (qlz t).testBit m := by
    unfold qlz
    rw [BitVec.testBit_toNat, BitVec.testBit_toNat, g0, BitVec.getLsbD_sshiftRight]
    simp [hm]
  have g2 : qlz v2 = qlz v1 &&& qlz 1 := qlz_and (by rw [h2])
  rw [show qlz 1 = 2 ^ 1 - 1 from by decide +kernel, Nat.and_two_pow_sub_one_eq_mod] at g2
  rw [Nat.testBit_eq_decide_div_mod_eq, Nat.testBit_eq_decide_div_mod_eq, decide_eq_decide] at g3
  have g4 := qlz_nn (a := v2) (by omega)
  have g5 : qlz v1 / 2 ^ 0 = qlz v1 := by rw [Nat.pow_zero, Nat.div_one]
  rw [g5] at g3
  unfold qbi
  rw [Int.toNat_natCast]
  omega
end
section
/-! texts: how one is read, and what it gives -/
abbrev qtx_3 : Type := Int × Int × Int
def qtx_c (T : Nat → Int) (n a : Int) : Int := if 0 ≤ a ∧ a < n then T a.toNat else -1
theorem qtx_c_c (T : Nat → Int) (n a : Int) : (a < 0 ∧ qtx_c T n a = -1) ∨ ((0 ≤ a ∧ a < n) ∧ qtx_c T n a = T a.toNat) ∨ ((0 ≤ a ∧ n ≤ a) ∧ qtx_c T n a = -1) := by
  unfold qtx_c
  by_cases h : 0 ≤ a ∧ a < n
  · exact Or.inr (Or.inl ⟨h, if_pos h⟩)
  · by_cases h2 : a < 0
    · exact Or.inl ⟨h2, if_neg h⟩
    · exact Or.inr (Or.inr ⟨by omega, if_neg h⟩)
theorem qtx_c_cg {T T' : Nat → Int} {n : Int} (h : ∀ j : Nat, (j : Int) < n → T j = T' j) : qtx_c T n = qtx_c T' n := funext fun a => by
  unfold qtx_c
  by_cases c : 0 ≤ a ∧ a < n
  · rw [if_pos c, if_pos c, h a.toNat (by omega)]
  · rw [if_neg c, if_neg c]
def qtx_nm (c : Int) : Int := if c = 102 then 0 else if c = 110 then 1 else if c = 99 then 2 else if c = 119 then 3 else if c = 118 then 4 else if c = 108 then 5 else if c = 107 then 6 else if c = 111 then 7 else if c = 100 then 8 else -1
theorem qtx_nm_c (c : Int) : (c = 102 ∧ qtx_nm c = 0) ∨ (c = 110 ∧ qtx_nm c = 1) ∨ (c = 99 ∧ qtx_nm c = 2) ∨ (c = 119 ∧ qtx_nm c = 3) ∨ (c = 118 ∧ qtx_nm c = 4) ∨ (c = 108 ∧ qtx_nm c = 5) ∨ (c = 107 ∧ qtx_nm c = 6) ∨ (c = 111 ∧ qtx_nm c = 7) ∨ (c = 100 ∧ qtx_nm c = 8) ∨ (¬ c = 102 ∧ ¬ c = 110 ∧ ¬ c = 99 ∧ ¬ c = 119 ∧ ¬ c = 118 ∧ ¬ c = 108 ∧ ¬ c = 107 ∧ ¬ c = 111 ∧ ¬ c = 100 ∧ qtx_nm c = -1) := by
  unfold qtx_nm
  repeat' split
  all_goals omega
def qtx_lo (c : Int) : Int := if c = 124 then 0 else if c = 38 then 1 else if c = 60 ∨ c = 61 ∨ c = 62 then 2 else if c = 43 ∨ c = 45 then 3 else if c = 42 ∨ c = 47 ∨ c = 37 then 4 else -1
theorem qtx_lo_c (c : Int) : (c = 124 ∧ qtx_lo c = 0) ∨ (c = 38 ∧ qtx_lo c = 1) ∨ ((c = 60 ∨ c = 61 ∨ c = 62) ∧ qtx_lo c = 2) ∨ ((c = 43 ∨ c = 45) ∧ qtx_lo c = 3) ∨ ((c = 42 ∨ c = 47 ∨ c = 37) ∧ qtx_lo c = 4) ∨ ((¬ c = 124 ∧ ¬ c = 38 ∧ ¬ c = 60 ∧ ¬ c = 61 ∧ ¬ c = 62 ∧ ¬ c = 43 ∧ ¬ c = 45 ∧ ¬ c = 42 ∧ ¬ c = 47 ∧ ¬ c = 37) ∧ qtx_lo c = -1) := by
  unfold qtx_lo
  repeat' split
  all_goals omega
/-- numbers: at most so many digits -/
def qtx_num (T : Nat → Int) (n : Int) : Nat → Int → Int → Int × Int
  | 0, v, a => (v, a)
  | k + 1, v, a => if 48 ≤ qtx_c T n a ∧ qtx_c T n a ≤ 57 then qtx_num T n k (10 * v + qtx_c T n a - 48) (a + 1) else (v, a)
theorem qtx_num_go {T : Nat → Int} {n : Int} {k : Nat} {v a : Int} (h : 48 ≤ qtx_c T n a ∧ qtx_c T n a ≤ 57) : qtx_num T n (k + 1) v a = qtx_num T n k (10 * v + qtx_c T n a - 48) (a + 1) := if_pos h
theorem qtx_num_st {T : Nat → Int} {n : Int} {k : Nat} {v a : Int} (h : ¬ (48 ≤ qtx_c T n a ∧ qtx_c T n a ≤ 57)) : qtx_num T n k v a = (v, a) := by
  cases k with
  | zero => rfl
  | succ k => exact if_neg h
def qtx_p : Nat → Int
  | 0 => 1
  | k + 1 => 10 * qtx_p k
theorem qtx_num_b {T : Nat → Int} {n : Int} : ∀ (k : Nat) (v a : Int), 0 ≤ v → a ≤ n → a ≤ (qtx_num T n k v a).2 ∧ (qtx_num T n k v a).2 ≤ n ∧ (qtx_num T n k v a).2 ≤ a + k ∧ 0 ≤ (qtx_num T n k v a).1 ∧ (qtx_num T n k v a).1 + 1 ≤ (v + 1) * qtx_p k := by
  intro k
  induction k with
  | zero =>
    intro v a hv ha
    refine ⟨Int.le_refl _, ha, ?_, hv, ?_⟩
    · show a ≤ a + ((0 : Nat) : Int)
      omega
    · show v + 1 ≤ (v + 1) * 1
      omega
  | succ k ih =>
    intro v a hv ha
    by_cases h : 48 ≤ qtx_c T n a ∧ qtx_c T n a ≤ 57
    · have hc := qtx_c_c T n a
      have h1 := ih (10 * v + qtx_c T n a - 48) (a + 1) (by omega) (by omega)
      rw [qtx_num_go h]
      refine ⟨by omega, h1.2.1, by omega, h1.2.2.2.1, Int.le_trans h1.2.2.2.2 ?_⟩
      have hp : ∀ j : Nat, 0 ≤ qtx_p j := by
        intro j
        induction j with
        | zero => decide
        | succ j ihj => show 0 ≤ 10 * qtx_p j; omega
      show (10 * v + qtx_c T n a - 48 + 1) * qtx_p k ≤ (v + 1) * (10 * qtx_p k)
      rw [← Int.mul_assoc, Int.mul_comm (v + 1) 10]
      exact Int.mul_le_mul_of_nonneg_right (by omega) (hp k)
    · rw [qtx_num_st h]
      refine ⟨Int.le_refl _, ha, by omega, hv, ?_⟩
      have hp : ∀ j : Nat, 1 ≤ qtx_p j := by
        intro j
        induction j with
        | zero => decide
        | succ j ihj => show 1 ≤ 10 * qtx_p j; omega
      have h2 : (v + 1) * 1 ≤ (v + 1) * qtx_p (k + 1) := Int.mul_le_mul_of_nonneg_left (hp _) (by omega)
      show v + 1 ≤ (v + 1) * qtx_p (k + 1)
      omega
/-- what signs give -/
def qtx_ap (c x y : Int) : Int := if c = 124 then (if x = 0 ∧ y = 0 then 0 else 1) else if c = 38 then (if x = 0 ∨ y = 0 then 0 else 1) else if c = 60 then (if x < y then 1 else 0) else if c = 61 then (if x = y then 1 else 0) else if c = 62 then (if y < x then 1 else 0) else if c = 43 then (qz (x + y)).toInt else if c = 45 then (qz (x - y)).toInt else if c = 42 then (qz (x * y)).toInt else if y = 0 then 0 else if c = 47 then qz_tdiv x y else if c = 37 then qz_trem x y else 0
def qtx_ng (c x : Int) : Int := if c = 45 then (qz (-x)).toInt else if x = 0 then 1 else 0
def qtx_cm (c : Int) (p q : qtx_3) : qtx_3 := (qtx_ap c p.1 q.1, q.2.1, q.2.2)
/-- what goes on as long as signs of a level stand there -/
def qtx_lp (T : Nat → Int) (n : Int) (sub : Int → qtx_3) (l : Int) : Nat → qtx_3 → qtx_3
  | 0, p => p
  | k + 1, p => if p.2.2 = 0 ∧ qtx_lo (qtx_c T n p.2.1) = l then qtx_lp T n sub l k (qtx_cm (qtx_c T n p.2.1) p (sub (p.2.1 + 1))) else p
theorem qtx_lp_go {T : Nat → Int} {n : Int} {sub : Int → qtx_3} {l : Int} {k : Nat} {p : qtx_3} (h : p.2.2 = 0 ∧ qtx_lo (qtx_c T n p.2.1) = l) : qtx_lp T n sub l (k + 1) p = qtx_lp T n sub l k (qtx_cm (qtx_c T n p.2.1) p (sub (p.2.1 + 1))) := if_pos h
theorem qtx_lp_st {T : Nat → Int} {n : Int} {sub : Int → qtx_3} {l : Int} {k : Nat} {p : qtx_3} (h : ¬ (p.2.2 = 0 ∧ qtx_lo (qtx_c T n p.2.1) = l)) : qtx_lp T n sub l k p = p := by
  cases k with
  | zero => rfl
  | succ k => exact if_neg h
/-- parts of a level, operands given: m levels above operands -/
def qtx_lv (T : Nat → Int) (n : Int) (one : Int → qtx_3) : Nat → Int → qtx_3
  | 0, a => one a
  | m + 1, a => qtx_lp T n (qtx_lv T n one m) (4 - (m : Int)) (if m = 2 then 1 else 120) (qtx_lv T n one m a)
def qtx_oo (T : Nat → Int) (n : Int) (N : Nat → Int) (a : Int) : qtx_3 :=
  if 0 ≤ qtx_nm (qtx_c T n a) then (N (qtx_nm (qtx_c T n a)).toNat, a + 1, 0)
  else if 48 ≤ qtx_c T n a ∧ qtx_c T n a ≤ 57 then ((qtx_num T n 4 0 a).1, (qtx_num T n 4 0 a).2, 0)
  else (0, a, 1)
def qtx_pc (T : Nat → Int) (n : Int) (x : qtx_3) : qtx_3 := if x.2.2 = 0 ∧ qtx_c T n x.2.1 = 41 then (x.1, x.2.1 + 1, 0) else (0, x.2.1, 1)
def qtx_un (c : Int) (x : qtx_3) : qtx_3 := (qtx_ng c x.1, x.2.1, x.2.2)
/-- an operand, with so many still to be opened -/
def qtx_on (T : Nat → Int) (n : Int) (N : Nat → Int) : Nat → Int → qtx_3
  | 0, a => qtx_oo T n N a
  | r + 1, a =>
    if qtx_c T n a = 40 then qtx_pc T n (qtx_lv T n (fun b => qtx_on T n N r b) 5 (a + 1))
    else if qtx_c T n a = 33 ∨ qtx_c T n a = 45 then qtx_un (qtx_c T n a) (qtx_on T n N r (a + 1))
    else qtx_oo T n N a
def qtx_E (T : Nat → Int) (n : Int) (N : Nat → Int) (r : Nat) : Int → qtx_3 := qtx_lv T n (fun b => qtx_on T n N r b) 5
/-- a line: whether it counts, what it gives -/
def qtx_ln (T : Nat → Int) (n : Int) (E : Int → qtx_3) (a : Int) : Int × qtx_3 :=
  if (E a).2.2 = 0 ∧ qtx_c T n (E a).2.1 = 63 then ((if (E a).1 = 0 then 0 else 1), E ((E a).2.1 + 1)) else (1, E a)
def qtx_gi (gi h : Int) : Int := if gi = 1 ∨ h = 1 then 1 else 0
def qtx_ge (gi h ge v : Int) : Int := if gi = 1 then ge else if h = 1 then v else ge
/-- a text from a line on -/
def qtx_pg (T : Nat → Int) (n : Int) (E : Int → qtx_3) : Nat → Int → Int → Int → qtx_3
  | 0, a, _, ge => (ge, a, 0)
  | k + 1, a, gi, ge =>
    if (qtx_ln T n E a).2.2.2 = 0 ∧ qtx_c T n (qtx_ln T n E a).2.2.1 = 59 then qtx_pg T n E k ((qtx_ln T n E a).2.2.1 + 1) (qtx_gi gi (qtx_ln T n E a).1) (qtx_ge gi (qtx_ln T n E a).1 ge (qtx_ln T n E a).2.1)
    else (qtx_ge gi (qtx_ln T n E a).1 ge (qtx_ln T n E a).2.1, (qtx_ln T n E a).2.2.1, if (qtx_ln T n E a).2.2.2 = 0 ∧ n ≤ (qtx_ln T n E a).2.2.1 then 0 else 1)
theorem qtx_pg_go {T : Nat → Int} {n : Int} {E : Int → qtx_3} {k : Nat} {a gi ge : Int} (h : (qtx_ln T n E a).2.2.2 = 0 ∧ qtx_c T n (qtx_ln T n E a).2.2.1 = 59) : qtx_pg T n E (k + 1) a gi ge = qtx_pg T n E k ((qtx_ln T n E a).2.2.1 + 1) (qtx_gi gi (qtx_ln T n E a).1) (qtx_ge gi (qtx_ln T n E a).1 ge (qtx_ln T n E a).2.1) := if_pos h
theorem qtx_pg_st {T : Nat → Int} {n : Int} {E : Int → qtx_3} {k : Nat} {a gi ge : Int} (h : ¬ ((qtx_ln T n E a).2.2.2 = 0 ∧ qtx_c T n (qtx_ln T n E a).2.2.1 = 59)) : qtx_pg T n E (k + 1) a gi ge = (qtx_ge gi (qtx_ln T n E a).1 ge (qtx_ln T n E a).2.1, (qtx_ln T n E a).2.2.1, if (qtx_ln T n E a).2.2.2 = 0 ∧ n ≤ (qtx_ln T n E a).2.2.1 then 0 else 1) := if_neg h
/-- the whole text -/
def qtx_W (T : Nat → Int) (n : Int) (N : Nat → Int) : qtx_3 := qtx_pg T n (qtx_E T n N 6) 121 0 0 0
/-! texts that are alike as far as they go -/
theorem qtx_num_cg {T T' : Nat → Int} {n : Int} (hC : qtx_c T n = qtx_c T' n) : ∀ (k : Nat) (v a : Int), qtx_num T n k v a = qtx_num T' n k v a := by
  intro k
  induction k with
  | zero => intro v a; rfl
  | succ k ih =>
    intro v a
    show (if 48 ≤ qtx_c T n a ∧ qtx_c T n a ≤ 57 then qtx_num T n k (10 * v + qtx_c T n a - 48) (a + 1) else (v, a)) = (if 48 ≤ qtx_c T' n a ∧ qtx_c T' n a ≤ 57 then qtx_num T' n k (10 * v + qtx_c T' n a - 48) (a + 1) else (v, a))
    rw [hC, ih]
theorem qtx_lp_cg {T T' : Nat → Int} {n : Int} (hC : qtx_c T n = qtx_c T' n) (sub : Int → qtx_3) (l : Int) : ∀ (k : Nat) (p : qtx_3), qtx_lp T n sub l k p = qtx_lp T' n sub l k p := by
  intro k
  induction k with
  | zero => intro p; rfl
  | succ k ih =>
    intro p
    show (if p.2.2 = 0 ∧ qtx_lo (qtx_c T n p.2.1) = l then qtx_lp T n sub l k (qtx_cm (qtx_c T n p.2.1) p (sub (p.2.1 + 1))) else p) = (if p.2.2 = 0 ∧ qtx_lo (qtx_c T' n p.2.1) = l then qtx_lp T' n sub l k (qtx_cm (qtx_c T' n p.2.1) p (sub (p.2.1 + 1))) else p)
    rw [hC, ih]
theorem qtx_lv_cg {T T' : Nat → Int} {n : Int} (hC : qtx_c T n = qtx_c T' n) (one : Int → qtx_3) : ∀ m : Nat, qtx_lv T n one m = qtx_lv T' n one m := by
  intro m
  induction m with
  | zero => rfl
  | succ m ih =>
    funext a
    show qtx_lp T n (qtx_lv T n one m) (4 - (m : Int)) (if m = 2 then 1 else 120) (qtx_lv T n one m a) = qtx_lp T' n (qtx_lv T' n one m) (4 - (m : Int)) (if m = 2 then 1 else 120) (qtx_lv T' n one m a)
    rw [ih, qtx_lp_cg hC]
theorem qtx_oo_cg {T T' : Nat → Int} {n : Int} (hC : qtx_c T n = qtx_c T' n) (N : Nat → Int) (a : Int) : qtx_oo T n N a = qtx_oo T' n N a := by
  unfold qtx_oo
  rw [hC, qtx_num_cg hC]
theorem qtx_on_cg {T T' : Nat → Int} {n : Int} (hC : qtx_c T n = qtx_c T' n) (N : Nat → Int) : ∀ (r : Nat) (a : Int), qtx_on T n N r a = qtx_on T' n N r a := by
  intro r
  induction r with
  | zero => exact qtx_oo_cg hC N
  | succ r ih =>
    intro a
    show (if qtx_c T n a = 40 then qtx_pc T n (qtx_lv T n (fun b => qtx_on T n N r b) 5 (a + 1)) else if qtx_c T n a = 33 ∨ qtx_c T n a = 45 then qtx_un (qtx_c T n a) (qtx_on T n N r (a + 1)) else qtx_oo T n N a) = (if qtx_c T' n a = 40 then qtx_pc T' n (qtx_lv T' n (fun b => qtx_on T' n N r b) 5 (a + 1)) else if qtx_c T' n a = 33 ∨ qtx_c T' n a = 45 then qtx_un (qtx_c T' n a) (qtx_on T' n N r (a + 1)) else qtx_oo T' n N a)
    have e : (fun b => qtx_on T n N r b) = fun b => qtx_on T' n N r b := funext ih
    have e2 : ∀ x : qtx_3, qtx_pc T n x = qtx_pc T' n x := fun x => by unfold qtx_pc; rw [hC]
    rw [hC, e, ih, e2, qtx_lv_cg hC, qtx_oo_cg hC]
theorem qtx_E_cg {T T' : Nat → Int} {n : Int} (hC : qtx_c T n = qtx_c T' n) (N : Nat → Int) (r : Nat) : qtx_E T n N r = qtx_E T' n N r := by
  have e : (fun b => qtx_on T n N r b) = fun b => qtx_on T' n N r b := funext (qtx_on_cg hC N r)
  unfold qtx_E
  rw [e, qtx_lv_cg hC]
theorem qtx_ln_cg {T T' : Nat → Int} {n : Int} (hC : qtx_c T n = qtx_c T' n) (E : Int → qtx_3) (a : Int) : qtx_ln T n E a = qtx_ln T' n E a := by
  unfold qtx_ln
  rw [hC]
theorem qtx_pg_cg {T T' : Nat → Int} {n : Int} (hC : qtx_c T n = qtx_c T' n) (E : Int → qtx_3) : ∀ (k : Nat) (a gi ge : Int), qtx_pg T n E k a gi ge = qtx_pg T' n E k a gi ge := by
  intro k
  induction k with
  | zero => intro a gi ge; rfl
  | succ k ih =>
    intro a gi ge
    by_cases h : (qtx_ln T n E a).2.2.2 = 0 ∧ qtx_c T n (qtx_ln T n E a).2.2.1 = 59
    · rw [qtx_pg_go h, qtx_pg_go (by rw [← qtx_ln_cg hC, ← hC]; exact h), ih, qtx_ln_cg hC]
    · rw [qtx_pg_st h, qtx_pg_st (by rw [← qtx_ln_cg hC, ← hC]; exact h), qtx_ln_cg hC]
theorem qtx_W_cg {T T' : Nat → Int} {n : Int} (h : ∀ j : Nat, (j : Int) < n → T j = T' j) (N : Nat → Int) : qtx_W T n N = qtx_W T' n N := by
  have hC := qtx_c_cg h
  unfold qtx_W
  rw [qtx_E_cg hC, qtx_pg_cg hC]
end
section
/-! steps of a text that was read, and what working them out gives -/
def qwr (cd N : Nat → Int) (z : Int) : Nat → Int → (Nat → Int) → Int → Int
  | 0, _, _, _ => 0
  | k + 1, i, s, p =>
    if z ≤ i then 0
    else if cd i.toNat / 65536 = 48 ∨ cd i.toNat / 65536 = 97 then
      (if 120 ≤ p then 0 else qwr cd N z k (i + 1) (qzu s p.toNat (if cd i.toNat / 65536 = 48 then cd i.toNat % 65536 else if cd i.toNat % 65536 < 9 then N (cd i.toNat % 65536).toNat else 0)) (p + 1))
    else if p < 1 then 0
    else if cd i.toNat / 65536 = 59 then s (p - 1).toNat
    else if cd i.toNat / 65536 = 63 then qwr cd N z k (if s (p - 1).toNat = 0 ∧ i + 1 ≤ cd i.toNat % 65536 then cd i.toNat % 65536 else i + 1) s (p - 1)
    else if cd i.toNat / 65536 = 33 then qwr cd N z k (i + 1) (qzu s (p - 1).toNat (if s (p - 1).toNat = 0 then 1 else 0)) p
    else if cd i.toNat / 65536 = 126 then qwr cd N z k (i + 1) (qzu s (p - 1).toNat (qz (-(s (p - 1).toNat))).toInt) p
    else if p < 2 then 0
    else qwr cd N z k (i + 1) (qzu s (p - 2).toNat (qtx_ap (cd i.toNat / 65536) (s (p - 2).toNat) (s (p - 1).toNat))) (p - 1)
theorem qwr_fu (cd N : Nat → Int) (z : Int) : ∀ (k k' : Nat) (i : Int) (s : Nat → Int) (p : Int), z - i ≤ (k : Int) → z - i ≤ (k' : Int) → qwr cd N z k i s p = qwr cd N z k' i s p := by
  intro k
  induction k with
  | zero =>
    intro k' i s p h1 h2
    cases k' with
    | zero => rfl
    | succ k' => exact (if_pos (show z ≤ i by omega)).symm
  | succ k ih =>
    intro k' i s p h1 h2
    cases k' with
    | zero => exact if_pos (show z ≤ i by omega)
    | succ k' =>
      have f : ∀ (i' : Int) (s' : Nat → Int) (p' : Int), i + 1 ≤ i' → qwr cd N z k i' s' p' = qwr cd N z k' i' s' p' := fun i' s' p' hi => ih k' i' s' p' (by omega) (by omega)
      unfold qwr
      by_cases c0 : z ≤ i
      · rw [if_pos c0, if_pos c0]
      · rw [if_neg c0, if_neg c0]
        by_cases c1 : cd i.toNat / 65536 = 48 ∨ cd i.toNat / 65536 = 97
        · rw [if_pos c1, if_pos c1, f _ _ _ (Int.le_refl _)]
        · rw [if_neg c1, if_neg c1, f _ _ _ (Int.le_refl _), f _ _ _ (Int.le_refl _), f _ _ _ (Int.le_refl _)]
          by_cases c2 : s (p - 1).toNat = 0 ∧ i + 1 ≤ cd i.toNat % 65536
          · rw [if_pos c2, f _ _ _ c2.2]
          · rw [if_neg c2, f _ _ _ (Int.le_refl _)]
def qwv (cd N : Nat → Int) (z i : Int) (s : Nat → Int) (p : Int) : Int := qwr cd N z (z - i).toNat i s p
theorem qwv_end {cd N : Nat → Int} {z i : Int} {s : Nat → Int} {p : Int} (h : z ≤ i) : qwv cd N z i s p = 0 := by
  unfold qwv
  rw [show (z - i).toNat = 0 by omega]
  rfl
theorem qwv_s (cd N : Nat → Int) {z i : Int} (s : Nat → Int) (p : Int) (h : i < z) : qwv cd N z i s p =
    if cd i.toNat / 65536 = 48 ∨ cd i.toNat / 65536 = 97 then
      (if 120 ≤ p then 0 else qwv cd N z (i + 1) (qzu s p.toNat (if cd i.toNat / 65536 = 48 then cd i.toNat % 65536 else if cd i.toNat % 65536 < 9 then N (cd i.toNat % 65536).toNat else 0)) (p + 1))
    else if p < 1 then 0
    else if cd i.toNat / 65536 = 59 then s (p - 1).toNat
    else if cd i.toNat / 65536 = 63 then qwv cd N z (if s (p - 1).toNat = 0 ∧ i + 1 ≤ cd i.toNat % 65536 then cd i.toNat % 65536 else i + 1) s (p - 1)
    else if cd i.toNat / 65536 = 33 then qwv cd N z (i + 1) (qzu s (p - 1).toNat (if s (p - 1).toNat = 0 then 1 else 0)) p
    else if cd i.toNat / 65536 = 126 then qwv cd N z (i + 1) (qzu s (p - 1).toNat (qz (-(s (p - 1).toNat))).toInt) p
    else if p < 2 then 0
    else qwv cd N z (i + 1) (qzu s (p - 2).toNat (qtx_ap (cd i.toNat / 65536) (s (p - 2).toNat) (s (p - 1).toNat))) (p - 1) := by
  have f : ∀ (i' : Int) (s' : Nat → Int) (p' : Int), i + 1 ≤ i' → qwr cd N z (z - i - 1).toNat i' s' p' = qwv cd N z i' s' p' := fun i' s' p' hi => qwr_fu cd N z _ _ i' s' p' (by omega) (by omega)
  have e : qwv cd N z i s p = qwr cd N z ((z - i - 1).toNat + 1) i s p := qwr_fu cd N z _ _ i s p (by omega) (by omega)
  rw [e]
  unfold qwr
  rw [if_neg (show ¬ z ≤ i by omega), f _ _ _ (Int.le_refl _), f _ _ _ (Int.le_refl _), f _ _ _ (Int.le_refl _), f _ _ _ (Int.le_refl _)]
  by_cases c2 : s (p - 1).toNat = 0 ∧ i + 1 ≤ cd i.toNat % 65536
  · rw [if_pos c2, f _ _ _ c2.2]
  · rw [if_neg c2, f _ _ _ (Int.le_refl _)]
/-- steps from i to j lay one number on the pile -/
def qtx_X (cd : Nat → Int) (i j : Int) (f : (Nat → Int) → Int) : Prop := (0 ≤ i ∧ i < j) ∧ ∀ cd' : Nat → Int, (∀ k : Int, i ≤ k → k < j → cd' k.toNat = cd k.toNat) → ∀ (N : Nat → Int) (z : Int) (s : Nat → Int) (p : Int), j ≤ z → 0 ≤ p → p + (j - i) ≤ 120 → ∃ s' : Nat → Int, (∀ k : Nat, (k : Int) < p → s' k = s k) ∧ s' p.toNat = f N ∧ qwv cd' N z i s p = qwv cd' N z j s' (p + 1)
theorem qtx_X_fr {cd cd2 : Nat → Int} {i j : Int} {f : (Nat → Int) → Int} (h : qtx_X cd i j f) (e : ∀ k : Int, i ≤ k → k < j → cd2 k.toNat = cd k.toNat) : qtx_X cd2 i j f :=
  ⟨h.1, fun cd' hc => h.2 cd' (fun k h1 h2 => (hc k h1 h2).trans (e k h1 h2))⟩
theorem qtx_X_num {cd : Nat → Int} {i v : Int} (hi : 0 ≤ i) (hv : 0 ≤ v ∧ v < 65536) (hc : cd i.toNat = 48 * 65536 + v) : qtx_X cd i (i + 1) (fun _ => v) := by
  refine ⟨by omega, fun cd' he N z s p hz hp hl => ⟨qzu s p.toNat v, fun k hk => ?_, ?_, ?_⟩⟩
  · unfold qzu; rw [if_neg (by omega)]
  · unfold qzu; rw [if_pos rfl]
  · have e : cd' i.toNat = 48 * 65536 + v := (he i (Int.le_refl _) (by omega)).trans hc
    rw [qwv_s cd' N s p (by omega), if_pos (Or.inl (by omega)), if_neg (by omega), if_pos (by omega), show cd' i.toNat % 65536 = v by omega]
theorem qtx_X_nam {cd : Nat → Int} {i m : Int} (hi : 0 ≤ i) (hm : 0 ≤ m ∧ m < 9) (hc : cd i.toNat = 97 * 65536 + m) : qtx_X cd i (i + 1) (fun N => N m.toNat) := by
  refine ⟨by omega, fun cd' he N z s p hz hp hl => ⟨qzu s p.toNat (N m.toNat), fun k hk => ?_, ?_, ?_⟩⟩
  · unfold qzu; rw [if_neg (by omega)]
  · unfold qzu; rw [if_pos rfl]
  · have e : cd' i.toNat = 97 * 65536 + m := (he i (Int.le_refl _) (by omega)).trans hc
    rw [qwv_s cd' N s p (by omega), if_pos (Or.inr (by omega)), if_neg (by omega), if_neg (by omega), if_pos (by omega), show cd' i.toNat % 65536 = m by omega]
theorem qtx_X_not {cd : Nat → Int} {i j : Int} {f : (Nat → Int) → Int} (h : qtx_X cd i j f) (hc : cd j.toNat = 33 * 65536) : qtx_X cd i (j + 1) (fun N => qtx_ng 33 (f N)) := by
  refine ⟨by have := h.1; omega, fun cd' he N z s p hz hp hl => ?_⟩
  have h1 := h.1
  obtain ⟨s1, a1, a2, a3⟩ := h.2 cd' (fun k h1 h2 => he k h1 (by omega)) N z s p (by omega) hp (by omega)
  have e : cd' j.toNat = 33 * 65536 := (he j (by omega) (by omega)).trans hc
  refine ⟨qzu s1 p.toNat (if s1 p.toNat = 0 then 1 else 0), fun k hk => ?_, ?_, ?_⟩
  · unfold qzu; rw [if_neg (by omega)]; exact a1 k hk
  · show qzu s1 p.toNat (if s1 p.toNat = 0 then 1 else 0) p.toNat = qtx_ng 33 (f N)
    unfold qzu
    rw [if_pos rfl, ← a2]
    rfl
  · rw [a3, qwv_s cd' N s1 (p + 1) (by omega), if_neg (by omega), if_neg (by omega), if_neg (by omega), if_neg (by omega), if_pos (by omega), show p + 1 - 1 = p by omega]
theorem qtx_X_neg {cd : Nat → Int} {i j : Int} {f : (Nat → Int) → Int} (h : qtx_X cd i j f) (hc : cd j.toNat = 126 * 65536) : qtx_X cd i (j + 1) (fun N => qtx_ng 45 (f N)) := by
  refine ⟨by have := h.1; omega, fun cd' he N z s p hz hp hl => ?_⟩
  have h1 := h.1
  obtain ⟨s1, a1, a2, a3⟩ := h.2 cd' (fun k h1 h2 => he k h1 (by omega)) N z s p (by omega) hp (by omega)
  have e : cd' j.toNat = 126 * 65536 := (he j (by omega) (by omega)).trans hc
  refine ⟨qzu s1 p.toNat (qz (-(s1 p.toNat))).toInt, fun k hk => ?_, ?_, ?_⟩
  · unfold qzu; rw [if_neg (by omega)]; exact a1 k hk
  · show qzu s1 p.toNat (qz (-(s1 p.toNat))).toInt p.toNat = qtx_ng 45 (f N)
    unfold qzu
    rw [if_pos rfl, ← a2]
    rfl
  · rw [a3, qwv_s cd' N s1 (p + 1) (by omega), if_neg (by omega), if_neg (by omega), if_neg (by omega), if_neg (by omega), if_neg (by omega), if_pos (by omega), show p + 1 - 1 = p by omega]
theorem qtx_X_bin {cd : Nat → Int} {i j k c : Int} {f g : (Nat → Int) → Int} (hf : qtx_X cd i j f) (hg : qtx_X cd j k g) (ho : 0 ≤ qtx_lo c) (hc : cd k.toNat = c * 65536) : qtx_X cd i (k + 1) (fun N => qtx_ap c (f N) (g N)) := by
  have h1 := hf.1
  have h2 := hg.1
  have hq := qtx_lo_c c
  refine ⟨by omega, fun cd' he N z s p hz hp hl => ?_⟩
  obtain ⟨s1, a1, a2, a3⟩ := hf.2 cd' (fun x b1 b2 => he x b1 (by omega)) N z s p (by omega) hp (by omega)
  obtain ⟨s2, c1, c2, c3⟩ := hg.2 cd' (fun x b1 b2 => he x (by omega) (by omega)) N z s1 (p + 1) (by omega) (by omega) (by omega)
  have e : cd' k.toNat = c * 65536 := (he k (by omega) (by omega)).trans hc
  have d : s2 p.toNat = f N := (c1 p.toNat (by omega)).trans a2
  refine ⟨qzu s2 p.toNat (qtx_ap (cd' k.toNat / 65536) (s2 p.toNat) (s2 (p + 1).toNat)), fun x hx => ?_, ?_, ?_⟩
  · unfold qzu; rw [if_neg (by omega)]; exact (c1 x (by omega)).trans (a1 x hx)
  · unfold qzu; rw [if_pos rfl, d, c2, show cd' k.toNat / 65536 = c by omega]
  · rw [a3, c3, qwv_s cd' N s2 (p + 1 + 1) (by omega), if_neg (by omega), if_neg (by omega), if_neg (by omega), if_neg (by omega), if_neg (by omega), if_neg (by omega), if_neg (by omega), show p + 1 + 1 - 2 = p by omega, show p + 1 + 1 - 1 = p + 1 by omega]
/-- steps up to j: lines, of which the first that counts was among them or not -/
def qtx_Y (cd : Nat → Int) (j : Int) (gi ge : (Nat → Int) → Int) : Prop := 0 ≤ j ∧ ∀ cd' : Nat → Int, (∀ k : Int, 0 ≤ k → k < j → cd' k.toNat = cd k.toNat) → ∀ (N : Nat → Int) (z : Int) (s : Nat → Int), j ≤ z → (gi N = 1 ∧ qwv cd' N z 0 s 0 = ge N) ∨ (gi N = 0 ∧ ge N = 0 ∧ ∃ s' : Nat → Int, qwv cd' N z 0 s 0 = qwv cd' N z j s' 0)
theorem qtx_Y_0 (cd : Nat → Int) : qtx_Y cd 0 (fun _ => 0) (fun _ => 0) := ⟨Int.le_refl _, fun _ _ _ _ s _ => Or.inr ⟨rfl, rfl, s, rfl⟩⟩
theorem qtx_Y_fr {cd cd2 : Nat → Int} {j : Int} {gi ge : (Nat → Int) → Int} (h : qtx_Y cd j gi ge) (e : ∀ k : Int, 0 ≤ k → k < j → cd2 k.toNat = cd k.toNat) : qtx_Y cd2 j gi ge :=
  ⟨h.1, fun cd' hc => h.2 cd' (fun k h1 h2 => (hc k h1 h2).trans (e k h1 h2))⟩
theorem qtx_Y_pl {cd : Nat → Int} {i j : Int} {gi ge f : (Nat → Int) → Int} (h : qtx_Y cd i gi ge) (hx : qtx_X cd i j f) (hl : j - i ≤ 120) (hc : cd j.toNat = 59 * 65536) : qtx_Y cd (j + 1) (fun N => qtx_gi (gi N) 1) (fun N => qtx_ge (gi N) 1 (ge N) (f N)) := by
  have h0 := h.1
  have h1 := hx.1
  refine ⟨by omega, fun cd' he N z s hz => Or.inl ⟨if_pos (Or.inr rfl), ?_⟩⟩
  have e : cd' j.toNat = 59 * 65536 := (he j (by omega) (by omega)).trans hc
  show qwv cd' N z 0 s 0 = qtx_ge (gi N) 1 (ge N) (f N)
  unfold qtx_ge
  rcases h.2 cd' (fun k b1 b2 => he k b1 (by omega)) N z s (by omega) with ⟨g1, g2⟩ | ⟨g1, g2, s1, g3⟩
  · rw [if_pos g1, g2]
  · obtain ⟨s2, a1, a2, a3⟩ := hx.2 cd' (fun k b1 b2 => he k (by omega) (by omega)) N z s1 0 (by omega) (Int.le_refl _) (by omega)
    rw [if_neg (by omega), if_pos rfl, g3, a3, qwv_s cd' N s2 (0 + 1) (by omega), if_neg (by omega), if_neg (by decide), if_pos (by omega)]
    exact a2
theorem qtx_Y_if {cd : Nat → Int} {i j k : Int} {gi ge f g : (Nat → Int) → Int} (h : qtx_Y cd i gi ge) (hx : qtx_X cd i j f) (hl : j - i ≤ 120) (hc : cd j.toNat = 63 * 65536 + (k + 1)) (hk : k < 65535) (hy : qtx_X cd (j + 1) k g) (hl2 : k - (j + 1) ≤ 120) (hc2 : cd k.toNat = 59 * 65536) : qtx_Y cd (k + 1) (fun N => qtx_gi (gi N) (if f N = 0 then 0 else 1)) (fun N => qtx_ge (gi N) (if f N = 0 then 0 else 1) (ge N) (g N)) := by
  have h0 := h.1
  have h1 := hx.1
  have h2 := hy.1
  refine ⟨by omega, fun cd' he N z s hz => ?_⟩
  have e : cd' j.toNat = 63 * 65536 + (k + 1) := (he j (by omega) (by omega)).trans hc
  have e2 : cd' k.toNat = 59 * 65536 := (he k (by omega) (by omega)).trans hc2
  show (qtx_gi (gi N) (if f N = 0 then 0 else 1) = 1 ∧ qwv cd' N z 0 s 0 = qtx_ge (gi N) (if f N = 0 then 0 else 1) (ge N) (g N)) ∨ (qtx_gi (gi N) (if f N = 0 then 0 else 1) = 0 ∧ qtx_ge (gi N) (if f N = 0 then 0 else 1) (ge N) (g N) = 0 ∧ ∃ s' : Nat → Int, qwv cd' N z 0 s 0 = qwv cd' N z (k + 1) s' 0)
  unfold qtx_gi qtx_ge
  rcases h.2 cd' (fun k b1 b2 => he k b1 (by omega)) N z s (by omega) with ⟨g1, g2⟩ | ⟨g1, g2, s1, g3⟩
  · exact Or.inl ⟨if_pos (Or.inl g1), by rw [if_pos g1, g2]⟩
  · obtain ⟨s2, a1, a2, a3⟩ := hx.2 cd' (fun x b1 b2 => he x (by omega) (by omega)) N z s1 0 (by omega) (Int.le_refl _) (by omega)
    have a4 : s2 (0 + 1 - 1 : Int).toNat = f N := a2
    have st : qwv cd' N z 0 s 0 = qwv cd' N z (if f N = 0 ∧ j + 1 ≤ k + 1 then k + 1 else j + 1) s2 0 := by
      rw [g3, a3, qwv_s cd' N s2 (0 + 1) (by omega), if_neg (by omega), if_neg (by decide), if_neg (by omega), if_pos (by omega), a4, show cd' j.toNat % 65536 = k + 1 by omega]
      rfl
    by_cases c : f N = 0
    · rw [if_pos ⟨c, by omega⟩] at st
      rw [if_pos c]
      exact Or.inr ⟨if_neg (by omega), by rw [if_neg (by omega), if_neg (by decide)]; exact g2, s2, st⟩
    · rw [if_neg (fun q => c q.1)] at st
      rw [if_neg c]
      obtain ⟨s3, b1, b2, b3⟩ := hy.2 cd' (fun x d1 d2 => he x (by omega) (by omega)) N z s2 0 (by omega) (Int.le_refl _) (by omega)
      refine Or.inl ⟨if_pos (Or.inr rfl), ?_⟩
      rw [if_neg (by omega), if_pos rfl, st, b3, qwv_s cd' N s3 (0 + 1) (by omega), if_neg (by omega), if_neg (by decide), if_pos (by omega)]
      exact b2
theorem qtx_Y_all {cd : Nat → Int} {j : Int} {gi ge : (Nat → Int) → Int} (h : qtx_Y cd j gi ge) (N s : Nat → Int) : qwv cd N j 0 s 0 = ge N := by
  rcases h.2 cd (fun _ _ _ => rfl) N j s (Int.le_refl _) with ⟨_, g2⟩ | ⟨_, g2, s', g3⟩
  · exact g2
  · rw [g3, g2, qwv_end (Int.le_refl _)]
/-- a step with its argument -/
theorem qtx_em {a b : Int} (ha : 0 ≤ a ∧ a ≤ 126) (hb : 0 ≤ b ∧ b < 65536) : qz_or (qz_shl a 16) b = a * 65536 + b := by
  have h1 : (qlz (qz_or (qz_shl a 16) b) : Int) = a * 65536 + b := by
    rw [qlz_or]
    have e1 : ∀ x : Fin 127, qlz (qz_shl ((x : Nat) : Int) 16) = (x : Nat) <<< 16 := by decide +kernel
    have e2 := e1 ⟨a.toNat, by omega⟩
    have e3 : ((a.toNat : Nat) : Int) = a := by omega
    have e4 : qlz (qz_shl a 16) = a.toNat <<< 16 := by rw [← e3]; exact e2
    have e5 := qlz_nn (a := b) (by omega)
    have e6 : qlz b < 2 ^ 16 := by omega
    rw [e4, ← Nat.shiftLeft_add_eq_or_of_lt e6, Nat.shiftLeft_eq]
    omega
  have h2 := qlz_nn (a := a * 65536 + b) (by omega)
  have h3 := qz_or_r (qz_shl a 16) b
  have h4 : qz (qz_or (qz_shl a 16) b) = qz (a * 65536 + b) := by
    have : (qz (qz_or (qz_shl a 16) b)).toBitVec = (qz (a * 65536 + b)).toBitVec := BitVec.eq_of_toNat_eq (show qlz _ = qlz _ by omega)
    exact Int32.toBitVec_inj.1 this
  exact qz_val h4 h3 (by omega)
end
section
/-! reading a text, step by step: what has been read, what was laid down for it -/
def qDep (nm : Int) (f : (Nat → Int) → Int) : Prop := ∀ N N' : Nat → Int, (∀ k : Int, 0 ≤ k → k < 9 → qbi nm k = 1 → N k.toNat = N' k.toNat) → f N = f N'
def qMo (nm nm2 : Int) : Prop := ∀ k : Int, 0 ≤ k → k < 9 → qbi nm k = 1 → qbi nm2 k = 1
def qCr (cd : Nat → Int) (i j : Int) : Prop := ∀ k : Int, i ≤ k → k < j → 0 ≤ cd k.toNat ∧ cd k.toNat < 8388608
def qKp (cd cd2 : Nat → Int) (j : Int) : Prop := ∀ k : Int, 0 ≤ k → k < j → cd2 k.toNat = cd k.toNat
theorem qDep_mo {nm nm2 : Int} {f : (Nat → Int) → Int} (h : qDep nm f) (hm : qMo nm nm2) : qDep nm2 f := fun N N' hn => h N N' (fun k h1 h2 h3 => hn k h1 h2 (hm k h1 h2 h3))
theorem qMo_rf (nm : Int) : qMo nm nm := fun _ _ _ h => h
theorem qMo_tr {a b c : Int} (h1 : qMo a b) (h2 : qMo b c) : qMo a c := fun k p q r => h2 k p q (h1 k p q r)
theorem qKp_rf (cd : Nat → Int) (j : Int) : qKp cd cd j := fun _ _ _ => rfl
theorem qKp_tr {a b c : Nat → Int} {j i : Int} (h1 : qKp a b j) (h2 : qKp b c i) (h : j ≤ i) : qKp a c j := fun k p q => (h2 k p (by omega)).trans (h1 k p q)
theorem qKp_u (cd : Nat → Int) {i j : Int} (v : Int) (h : j ≤ i) : qKp cd (qzu cd i.toNat v) j := fun k p q => by
  unfold qzu
  rw [if_neg (by omega)]
theorem qzu_at (cd : Nat → Int) (i : Nat) (v : Int) : qzu cd i v i = v := if_pos rfl
/-- from at_, sz, nm, cd on: P is what the text gives, at2 and so on is where it stands -/
def qRd (ln : Int) (P : (Nat → Int) → qtx_3) (at_ sz nm : Int) (cd : Nat → Int) (at2 sz2 nm2 sk2 : Int) (cd2 : Nat → Int) : Prop :=
  ((0 ≤ at_ ∧ at_ ≤ at2 ∧ at2 ≤ ln) ∧ (0 ≤ sz ∧ sz ≤ sz2 ∧ sz2 - sz ≤ at2 - at_) ∧ (-2147483648 ≤ nm2 ∧ nm2 ≤ 2147483647) ∧ (sk2 = 0 ∨ sk2 = 1)) ∧
  (∀ N, (P N).2.1 = at2 ∧ (P N).2.2 = sk2) ∧ qMo nm nm2 ∧ qKp cd cd2 sz ∧ qCr cd2 sz sz2 ∧
  (sk2 = 0 → qtx_X cd2 sz sz2 (fun N => (P N).1) ∧ qDep nm2 (fun N => (P N).1))
theorem qRd_cg {ln : Int} {P P' : (Nat → Int) → qtx_3} {at_ sz nm : Int} {cd : Nat → Int} {at2 sz2 nm2 sk2 : Int} {cd2 : Nat → Int} (h : qRd ln P at_ sz nm cd at2 sz2 nm2 sk2 cd2) (e : ∀ N, P' N = P N) : qRd ln P' at_ sz nm cd at2 sz2 nm2 sk2 cd2 := by
  rw [show P' = P from funext e]
  exact h
theorem qRd_st {ln : Int} {P : (Nat → Int) → qtx_3} {at_ sz nm : Int} (cd : Nat → Int) (h0 : 0 ≤ at_ ∧ at_ ≤ ln) (hs : 0 ≤ sz) (hn : -2147483648 ≤ nm ∧ nm ≤ 2147483647) (h : ∀ N, P N = (0, at_, 1)) : qRd ln P at_ sz nm cd at_ sz nm 1 cd :=
  ⟨⟨⟨h0.1, Int.le_refl _, h0.2⟩, ⟨hs, Int.le_refl _, by omega⟩, hn, Or.inr rfl⟩, fun N => by rw [h N]; exact ⟨rfl, rfl⟩, qMo_rf nm, qKp_rf cd sz, fun k h1 h2 => False.elim (by omega), fun e => absurd e (by decide)⟩
theorem qRd_num {ln : Int} {P : (Nat → Int) → qtx_3} {at_ sz nm at2 v : Int} (cd : Nat → Int) (h0 : 0 ≤ at_ ∧ at_ < at2 ∧ at2 ≤ ln) (hs : 0 ≤ sz) (hn : -2147483648 ≤ nm ∧ nm ≤ 2147483647) (hv : 0 ≤ v ∧ v < 65536) (h : ∀ N, P N = (v, at2, 0)) : qRd ln P at_ sz nm cd at2 (sz + 1) nm 0 (qzu cd sz.toNat (48 * 65536 + v)) := by
  refine ⟨⟨⟨h0.1, by omega, h0.2.2⟩, ⟨hs, by omega, by omega⟩, hn, Or.inl rfl⟩, fun N => by rw [h N]; exact ⟨rfl, rfl⟩, qMo_rf nm, qKp_u cd _ (Int.le_refl _), fun k h1 h2 => ?_, fun _ => ⟨?_, ?_⟩⟩
  · rw [show k = sz by omega, qzu_at]; omega
  · rw [show (fun N => (P N).1) = fun _ => v from funext fun N => by rw [h N]]
    exact qtx_X_num hs hv (qzu_at _ _ _)
  · intro N N' _
    show (P N).1 = (P N').1
    rw [h N, h N']
theorem qRd_nam {ln : Int} {P : (Nat → Int) → qtx_3} {at_ sz nm nm2 m : Int} (cd : Nat → Int) (h0 : 0 ≤ at_ ∧ at_ < ln) (hs : 0 ≤ sz) (hn : -2147483648 ≤ nm2 ∧ nm2 ≤ 2147483647) (hm : 0 ≤ m ∧ m < 9) (hb : ∀ k : Int, 0 ≤ k → k < 9 → (qbi nm2 k = 1 ↔ qbi nm k = 1 ∨ k = m)) (h : ∀ N, P N = (N m.toNat, at_ + 1, 0)) : qRd ln P at_ sz nm cd (at_ + 1) (sz + 1) nm2 0 (qzu cd sz.toNat (97 * 65536 + m)) := by
  refine ⟨⟨⟨h0.1, by omega, by omega⟩, ⟨hs, by omega, by omega⟩, hn, Or.inl rfl⟩, fun N => by rw [h N]; exact ⟨rfl, rfl⟩, fun k h1 h2 h3 => (hb k h1 h2).2 (Or.inl h3), qKp_u cd _ (Int.le_refl _), fun k h1 h2 => ?_, fun _ => ⟨?_, ?_⟩⟩
  · rw [show k = sz by omega, qzu_at]; omega
  · rw [show (fun N => (P N).1) = fun N => N m.toNat from funext fun N => by rw [h N]]
    exact qtx_X_nam hs hm (qzu_at _ _ _)
  · intro N N' hN
    show (P N).1 = (P N').1
    rw [h N, h N']
    exact hN m hm.1 hm.2 ((hb m hm.1 hm.2).2 (Or.inr rfl))
theorem qRd_un {ln : Int} {G P : (Nat → Int) → qtx_3} {at_ sz nm at2 sz2 nm2 sk2 c e : Int} {cd cd2 : Nat → Int} (ih : qRd ln G (at_ + 1) sz nm cd at2 sz2 nm2 sk2 cd2) (h0 : 0 ≤ at_) (hc : (c = 45 ∧ e = 126) ∨ (c = 33 ∧ e = 33)) (h : ∀ N, P N = qtx_un c (G N)) : qRd ln P at_ sz nm cd at2 (sz2 + 1) nm2 sk2 (qzu cd2 sz2.toNat (e * 65536 + 0)) := by
  obtain ⟨hr, h1, h2, h3, h4, h5⟩ := ih
  have hx : ∀ k : Int, sz ≤ k → k < sz2 → qzu cd2 sz2.toNat (e * 65536 + 0) k.toNat = cd2 k.toNat := fun k a b => qKp_u cd2 (i := sz2) _ (Int.le_refl _) k (by omega) b
  refine ⟨⟨⟨h0, by omega, by omega⟩, ⟨hr.2.1.1, by omega, by omega⟩, hr.2.2.1, hr.2.2.2⟩, fun N => by rw [h N]; exact h1 N, h2, qKp_tr h3 (qKp_u cd2 (i := sz2) _ (Int.le_refl _)) (by omega), fun k a b => ?_, fun z => ⟨?_, ?_⟩⟩
  · by_cases q : k = sz2
    · rw [q, qzu_at]; omega
    · rw [hx k a (by omega)]; exact h4 k a (by omega)
  · have hX := qtx_X_fr (h5 z).1 hx
    rw [show (fun N => (P N).1) = fun N => qtx_ng c (G N).1 from funext fun N => by rw [h N]; rfl]
    rcases hc with ⟨rfl, rfl⟩ | ⟨rfl, rfl⟩
    · exact qtx_X_neg hX (qzu_at _ _ _)
    · exact qtx_X_not hX (qzu_at _ _ _)
  · intro N N' hN
    show (P N).1 = (P N').1
    rw [h N, h N']
    exact congrArg (qtx_ng c) ((h5 z).2 N N' hN)
theorem qRd_pc {ln : Int} {T : Nat → Int} {G P : (Nat → Int) → qtx_3} {at_ sz nm at2 sz2 nm2 sk2 at3 sk3 : Int} {cd cd2 : Nat → Int} (ih : qRd ln G (at_ + 1) sz nm cd at2 sz2 nm2 sk2 cd2) (h0 : 0 ≤ at_) (hp : (sk2 = 0 ∧ qtx_c T ln at2 = 41 ∧ at3 = at2 + 1 ∧ sk3 = 0) ∨ (¬ (sk2 = 0 ∧ qtx_c T ln at2 = 41) ∧ at3 = at2 ∧ sk3 = 1)) (h : ∀ N, P N = qtx_pc T ln (G N)) : qRd ln P at_ sz nm cd at3 sz2 nm2 sk3 cd2 := by
  obtain ⟨hr, h1, h2, h3, h4, h5⟩ := ih
  have hc := qtx_c_c T ln at2
  rcases hp with ⟨p1, p2, rfl, rfl⟩ | ⟨p1, p2, p3⟩
  · have e : ∀ N, P N = ((G N).1, at2 + 1, 0) := fun N => by
      rw [h N]
      unfold qtx_pc
      rw [(h1 N).1, (h1 N).2, if_pos ⟨p1, p2⟩]
    refine ⟨⟨⟨h0, by omega, by omega⟩, ⟨hr.2.1.1, by omega, by omega⟩, hr.2.2.1, Or.inl rfl⟩, fun N => by rw [e N]; exact ⟨rfl, rfl⟩, h2, h3, h4, fun _ => ?_⟩
    rw [show (fun N => (P N).1) = fun N => (G N).1 from funext fun N => by rw [e N]]
    exact h5 p1
  · rw [p2, p3]
    have e : ∀ N, P N = (0, at2, 1) := fun N => by
      rw [h N]
      unfold qtx_pc
      rw [(h1 N).1, (h1 N).2, if_neg p1]
    exact ⟨⟨⟨h0, by omega, by omega⟩, ⟨hr.2.1.1, by omega, by omega⟩, hr.2.2.1, Or.inr rfl⟩, fun N => by rw [e N]; exact ⟨rfl, rfl⟩, h2, h3, h4, fun q => absurd q (by decide)⟩
theorem qRd_bin {ln : Int} {P S Q : (Nat → Int) → qtx_3} {at_ sz nm at1 sz1 nm1 at2 sz2 nm2 sk2 c : Int} {cd cd1 cd2 : Nat → Int} (hP : qRd ln P at_ sz nm cd at1 sz1 nm1 0 cd1) (hS : qRd ln S (at1 + 1) sz1 nm1 cd1 at2 sz2 nm2 sk2 cd2) (hc : 0 ≤ qtx_lo c) (h : ∀ N, Q N = qtx_cm c (P N) (S N)) : qRd ln Q at_ sz nm cd at2 (sz2 + 1) nm2 sk2 (qzu cd2 sz2.toNat (c * 65536 + 0)) := by
  obtain ⟨hr, h1, h2, h3, h4, h5⟩ := hP
  obtain ⟨gr, g1, g2, g3, g4, g5⟩ := hS
  have ho := qtx_lo_c c
  have hx : ∀ k : Int, 0 ≤ k → k < sz2 → qzu cd2 sz2.toNat (c * 65536 + 0) k.toNat = cd2 k.toNat := qKp_u cd2 (i := sz2) _ (Int.le_refl _)
  refine ⟨⟨⟨hr.1.1, by omega, by omega⟩, ⟨hr.2.1.1, by omega, by omega⟩, gr.2.2.1, gr.2.2.2⟩, fun N => by rw [h N]; exact g1 N, qMo_tr h2 g2, qKp_tr h3 (qKp_tr g3 (qKp_u cd2 (i := sz2) _ (Int.le_refl _)) (by omega)) (by omega), fun k a b => ?_, fun z => ⟨?_, ?_⟩⟩
  · by_cases q : k = sz2
    · rw [q, qzu_at]; omega
    · rw [hx k (by omega) (by omega)]
      by_cases q2 : k < sz1
      · rw [g3 k (by omega) q2]; exact h4 k a q2
      · exact g4 k (by omega) (by omega)
  · rw [show (fun N => (Q N).1) = fun N => qtx_ap c (P N).1 (S N).1 from funext fun N => by rw [h N]; rfl]
    refine qtx_X_bin (qtx_X_fr (h5 rfl).1 (fun k a b => ?_)) (qtx_X_fr (g5 z).1 (fun k a b => hx k (by omega) b)) hc ((qzu_at _ _ _).trans (by omega))
    rw [hx k (by omega) (by omega)]
    exact g3 k (by omega) b
  · intro N N' hN
    show (Q N).1 = (Q N').1
    rw [h N, h N']
    show qtx_ap c (P N).1 (S N).1 = qtx_ap c (P N').1 (S N').1
    have e1 : (P N).1 = (P N').1 := qDep_mo (h5 rfl).2 g2 N N' hN
    have e2 : (S N).1 = (S N').1 := (g5 z).2 N N' hN
    rw [e1, e2]
/-- a line -/
def qRl (ln : Int) (L : (Nat → Int) → Int × qtx_3) (at_ sz nm : Int) (cd : Nat → Int) (at2 sz2 nm2 sk2 : Int) (cd2 : Nat → Int) : Prop :=
  ((0 ≤ at_ ∧ at_ ≤ at2 ∧ at2 ≤ ln) ∧ (0 ≤ sz ∧ sz < sz2 ∧ sz2 - sz ≤ at2 - at_ + 1) ∧ (-2147483648 ≤ nm2 ∧ nm2 ≤ 2147483647) ∧ (sk2 = 0 ∨ sk2 = 1)) ∧
  (∀ N, (L N).2.2.1 = at2 ∧ (L N).2.2.2 = sk2) ∧ qMo nm nm2 ∧ qKp cd cd2 sz ∧ qCr cd2 sz sz2 ∧
  (sk2 = 0 → (∀ gi ge : (Nat → Int) → Int, qtx_Y cd sz gi ge → qtx_Y cd2 sz2 (fun N => qtx_gi (gi N) (L N).1) (fun N => qtx_ge (gi N) (L N).1 (ge N) (L N).2.1)) ∧ qDep nm2 (fun N => (L N).1) ∧ qDep nm2 (fun N => (L N).2.1))
theorem qRl_pl {ln : Int} {T : Nat → Int} {E : (Nat → Int) → Int → qtx_3} {at_ sz nm at2 sz2 nm2 sk2 : Int} {cd cd2 : Nat → Int} (hl : ln ≤ 120) (h : qRd ln (fun N => E N at_) at_ sz nm cd at2 sz2 nm2 sk2 cd2) (hc : ¬ (sk2 = 0 ∧ qtx_c T ln at2 = 63)) : qRl ln (fun N => qtx_ln T ln (E N) at_) at_ sz nm cd at2 (sz2 + 1) nm2 sk2 (qzu cd2 sz2.toNat (59 * 65536 + 0)) := by
  obtain ⟨hr, h1, h2, h3, h4, h5⟩ := h
  have hx : ∀ k : Int, 0 ≤ k → k < sz2 → qzu cd2 sz2.toNat (59 * 65536 + 0) k.toNat = cd2 k.toNat := qKp_u cd2 (i := sz2) _ (Int.le_refl _)
  have e : ∀ N, qtx_ln T ln (E N) at_ = (1, E N at_) := fun N => by
    unfold qtx_ln
    rw [(h1 N).1, (h1 N).2, if_neg hc]
  refine ⟨⟨⟨hr.1.1, by omega, by omega⟩, ⟨hr.2.1.1, by omega, by omega⟩, hr.2.2.1, hr.2.2.2⟩, fun N => by show (qtx_ln T ln (E N) at_).2.2.1 = at2 ∧ (qtx_ln T ln (E N) at_).2.2.2 = sk2; rw [e N]; exact h1 N, h2, qKp_tr h3 (qKp_u cd2 (i := sz2) _ (Int.le_refl _)) (by omega), fun k a b => ?_, fun z => ⟨fun gi ge hY => ?_, ?_, ?_⟩⟩
  · by_cases q : k = sz2
    · rw [q, qzu_at]; omega
    · rw [hx k (by omega) (by omega)]; exact h4 k a (by omega)
  · have hX := qtx_X_fr (h5 z).1 (cd2 := qzu cd2 sz2.toNat (59 * 65536 + 0)) (fun k a b => hx k (by omega) b)
    have hY2 := qtx_Y_fr hY (cd2 := qzu cd2 sz2.toNat (59 * 65536 + 0)) (fun k a b => (hx k a (by omega)).trans (h3 k a b))
    have := qtx_Y_pl hY2 hX (by omega) ((qzu_at _ _ _).trans (by omega))
    rw [show (fun N => qtx_gi (gi N) (qtx_ln T ln (E N) at_).1) = fun N => qtx_gi (gi N) 1 from funext fun N => by rw [e N], show (fun N => qtx_ge (gi N) (qtx_ln T ln (E N) at_).1 (ge N) (qtx_ln T ln (E N) at_).2.1) = fun N => qtx_ge (gi N) 1 (ge N) (E N at_).1 from funext fun N => by rw [e N]]
    exact this
  · intro N N' _
    show (qtx_ln T ln (E N) at_).1 = (qtx_ln T ln (E N') at_).1
    rw [e N, e N']
  · intro N N' hN
    show (qtx_ln T ln (E N) at_).2.1 = (qtx_ln T ln (E N') at_).2.1
    rw [e N, e N']
    exact (h5 z).2 N N' hN
theorem qRl_if {ln : Int} {T : Nat → Int} {E : (Nat → Int) → Int → qtx_3} {at_ sz nm at1 sz1 nm1 at2 sz2 nm2 sk2 : Int} {cd cd1 cd2 : Nat → Int} (hl : ln ≤ 120) (hb : 0 ≤ sz1 ∧ sz1 ≤ 121) (h : qRd ln (fun N => E N at_) at_ sz nm cd at1 sz1 nm1 0 cd1) (hc : qtx_c T ln at1 = 63) (hS : qRd ln (fun N => E N (at1 + 1)) (at1 + 1) (sz1 + 1) nm1 (qzu cd1 sz1.toNat (63 * 65536 + 0)) at2 sz2 nm2 sk2 cd2) : qRl ln (fun N => qtx_ln T ln (E N) at_) at_ sz nm cd at2 (sz2 + 1) nm2 sk2 (qzu (qzu cd2 sz2.toNat (59 * 65536 + 0)) sz1.toNat (63 * 65536 + (sz2 + 1))) := by
  obtain ⟨hr, h1, h2, h3, h4, h5⟩ := h
  obtain ⟨gr, g1, g2, g3, g4, g5⟩ := hS
  have hw : ∀ k : Int, 0 ≤ k → ¬ k = sz1 → k < sz2 → qzu (qzu cd2 sz2.toNat (59 * 65536 + 0)) sz1.toNat (63 * 65536 + (sz2 + 1)) k.toNat = cd2 k.toNat := fun k a b d => by
    unfold qzu
    rw [if_neg (by omega), if_neg (by omega)]
  have hv : ∀ k : Int, 0 ≤ k → k < sz1 → cd2 k.toNat = cd1 k.toNat := fun k a b => (g3 k a (by omega)).trans (qKp_u cd1 (i := sz1) _ (Int.le_refl _) k a b)
  have hz : qzu (qzu cd2 sz2.toNat (59 * 65536 + 0)) sz1.toNat (63 * 65536 + (sz2 + 1)) sz2.toNat = 59 * 65536 := by
    unfold qzu
    rw [if_neg (by omega), if_pos rfl]
    rfl
  have e : ∀ N, qtx_ln T ln (E N) at_ = ((if (E N at_).1 = 0 then 0 else 1), E N (at1 + 1)) := fun N => by
    unfold qtx_ln
    rw [(h1 N).1, (h1 N).2, if_pos ⟨rfl, hc⟩]
  refine ⟨⟨⟨hr.1.1, by omega, by omega⟩, ⟨hr.2.1.1, by omega, by omega⟩, gr.2.2.1, gr.2.2.2⟩, fun N => by show (qtx_ln T ln (E N) at_).2.2.1 = at2 ∧ (qtx_ln T ln (E N) at_).2.2.2 = sk2; rw [e N]; exact g1 N, qMo_tr h2 g2, fun k a b => (hw k a (by omega) (by omega)).trans ((hv k a (by omega)).trans (h3 k a b)), fun k a b => ?_, fun z => ⟨fun gi ge hY => ?_, ?_, ?_⟩⟩
  · by_cases q : k = sz1
    · rw [q, qzu_at]; omega
    · by_cases q2 : k = sz2
      · rw [q2, hz]; omega
      · rw [hw k (by omega) q (by omega)]
        by_cases q3 : k < sz1
        · rw [hv k (by omega) q3]; exact h4 k a q3
        · exact g4 k (by omega) (by omega)
  · have hX := qtx_X_fr (h5 rfl).1 (cd2 := qzu (qzu cd2 sz2.toNat (59 * 65536 + 0)) sz1.toNat (63 * 65536 + (sz2 + 1))) (fun k a b => (hw k (by omega) (by omega) (by omega)).trans (hv k (by omega) b))
    have hX2 := qtx_X_fr (g5 z).1 (cd2 := qzu (qzu cd2 sz2.toNat (59 * 65536 + 0)) sz1.toNat (63 * 65536 + (sz2 + 1))) (fun k a b => hw k (by omega) (by omega) b)
    have hY2 := qtx_Y_fr hY (cd2 := qzu (qzu cd2 sz2.toNat (59 * 65536 + 0)) sz1.toNat (63 * 65536 + (sz2 + 1))) (fun k a b => (hw k a (by omega) (by omega)).trans ((hv k a (by omega)).trans (h3 k a b)))
    have := qtx_Y_if hY2 hX (by omega) (qzu_at _ _ _) (by omega) hX2 (by omega) hz
    rw [show (fun N => qtx_gi (gi N) (qtx_ln T ln (E N) at_).1) = fun N => qtx_gi (gi N) (if (E N at_).1 = 0 then 0 else 1) from funext fun N => by rw [e N], show (fun N => qtx_ge (gi N) (qtx_ln T ln (E N) at_).1 (ge N) (qtx_ln T ln (E N) at_).2.1) = fun N => qtx_ge (gi N) (if (E N at_).1 = 0 then 0 else 1) (ge N) (E N (at1 + 1)).1 from funext fun N => by rw [e N]]
    exact this
  · intro N N' hN
    show (qtx_ln T ln (E N) at_).1 = (qtx_ln T ln (E N') at_).1
    rw [e N, e N']
    show (if (E N at_).1 = 0 then (0 : Int) else 1) = if (E N' at_).1 = 0 then 0 else 1
    have e1 : (E N at_).1 = (E N' at_).1 := qDep_mo (h5 rfl).2 g2 N N' hN
    rw [e1]
  · intro N N' hN
    show (qtx_ln T ln (E N) at_).2.1 = (qtx_ln T ln (E N') at_).2.1
    rw [e N, e N']
    exact (g5 z).2 N N' hN
/-- lines read so far; a text that was read -/
def qRs (ln : Int) (T : Nat → Int) (k : Nat) (at1 sz1 nm1 : Int) (cd1 : Nat → Int) : Prop :=
  ((0 ≤ at1 ∧ at1 ≤ ln) ∧ 0 ≤ sz1 ∧ sz1 + ln - at1 ≤ 120) ∧ ∃ gi ge : (Nat → Int) → Int, qtx_Y cd1 sz1 gi ge ∧ qDep nm1 gi ∧ qDep nm1 ge ∧ qCr cd1 0 sz1 ∧ ∀ N, qtx_W T ln N = qtx_pg T ln (qtx_E T ln N 6) k at1 (gi N) (ge N)
def qRt (ln : Int) (T : Nat → Int) (v sz2 nm2 : Int) (cd2 : Nat → Int) : Prop :=
  (v = -1 ∧ (∀ N, (qtx_W T ln N).2.2 = 0) ∧ (∃ gi : (Nat → Int) → Int, qtx_Y cd2 sz2 gi (fun N => (qtx_W T ln N).1)) ∧ qDep nm2 (fun N => (qtx_W T ln N).1) ∧ qCr cd2 0 sz2) ∨ (0 ≤ v ∧ ∀ N, (qtx_W T ln N).2.1 = v ∧ (qtx_W T ln N).2.2 = 1)
theorem qRs_0 {ln : Int} (T : Nat → Int) (nm : Int) (cd : Nat → Int) (h : 0 ≤ ln ∧ ln ≤ 120) : qRs ln T 121 0 0 nm cd :=
  ⟨⟨⟨Int.le_refl _, h.1⟩, Int.le_refl _, by omega⟩, fun _ => 0, fun _ => 0, qtx_Y_0 cd, fun _ _ _ => rfl, fun _ _ _ => rfl, fun k a b => False.elim (by omega), fun _ => rfl⟩
theorem qDep_gi {nm : Int} {gi h : (Nat → Int) → Int} (h1 : qDep nm gi) (h2 : qDep nm h) : qDep nm (fun N => qtx_gi (gi N) (h N)) := fun N N' hN => by
  show qtx_gi (gi N) (h N) = qtx_gi (gi N') (h N')
  rw [h1 N N' hN, h2 N N' hN]
theorem qDep_ge {nm : Int} {gi h ge v : (Nat → Int) → Int} (h1 : qDep nm gi) (h2 : qDep nm h) (h3 : qDep nm ge) (h4 : qDep nm v) : qDep nm (fun N => qtx_ge (gi N) (h N) (ge N) (v N)) := fun N N' hN => by
  show qtx_ge (gi N) (h N) (ge N) (v N) = qtx_ge (gi N') (h N') (ge N') (v N')
  rw [h1 N N' hN, h2 N N' hN, h3 N N' hN, h4 N N' hN]
theorem qCr_cat {cd cd2 : Nat → Int} {sz sz2 : Int} (h1 : qCr cd 0 sz) (h2 : qKp cd cd2 sz) (h3 : qCr cd2 sz sz2) : qCr cd2 0 sz2 := fun k a b => by
  by_cases c : k < sz
  · rw [h2 k a c]; exact h1 k a c
  · exact h3 k (by omega) b
theorem qRs_go {ln : Int} {T : Nat → Int} {k : Nat} {at1 sz1 nm1 at2 sz2 nm2 : Int} {cd1 cd2 : Nat → Int} (h : qRs ln T (k + 1) at1 sz1 nm1 cd1) (hL : qRl ln (fun N => qtx_ln T ln (qtx_E T ln N 6) at1) at1 sz1 nm1 cd1 at2 sz2 nm2 0 cd2) (hc : qtx_c T ln at2 = 59) : qRs ln T k (at2 + 1) sz2 nm2 cd2 := by
  obtain ⟨hb, gi, ge, hY, d1, d2, hr, hw⟩ := h
  obtain ⟨lr, l1, l2, l3, l4, l5⟩ := hL
  obtain ⟨y1, y2, y3⟩ := l5 rfl
  have c0 := qtx_c_c T ln at2
  refine ⟨⟨⟨by omega, by omega⟩, by omega, by omega⟩, _, _, y1 gi ge hY, qDep_gi (qDep_mo d1 l2) y2, qDep_ge (qDep_mo d1 l2) y2 (qDep_mo d2 l2) y3, qCr_cat hr l3 l4, fun N => ?_⟩
  have e := l1 N
  rw [hw N, qtx_pg_go (by rw [e.1, e.2]; exact ⟨rfl, hc⟩), e.1]
theorem qRs_end {ln : Int} {T : Nat → Int} {k : Nat} {at1 sz1 nm1 at2 sz2 nm2 : Int} {cd1 cd2 : Nat → Int} (h : qRs ln T (k + 1) at1 sz1 nm1 cd1) (hL : qRl ln (fun N => qtx_ln T ln (qtx_E T ln N 6) at1) at1 sz1 nm1 cd1 at2 sz2 nm2 0 cd2) (hc : ln ≤ at2) : qRt ln T (-1) sz2 nm2 cd2 := by
  obtain ⟨hb, gi, ge, hY, d1, d2, hr, hw⟩ := h
  obtain ⟨lr, l1, l2, l3, l4, l5⟩ := hL
  obtain ⟨y1, y2, y3⟩ := l5 rfl
  have c0 := qtx_c_c T ln at2
  have e : ∀ N, qtx_W T ln N = (qtx_ge (gi N) (qtx_ln T ln (qtx_E T ln N 6) at1).1 (ge N) (qtx_ln T ln (qtx_E T ln N 6) at1).2.1, at2, 0) := fun N => by
    have e := l1 N
    rw [hw N, qtx_pg_st (by rw [e.1, e.2]; omega), e.1, e.2, if_pos ⟨rfl, hc⟩]
  refine Or.inl ⟨rfl, fun N => by rw [e N], ⟨fun N => qtx_gi (gi N) (qtx_ln T ln (qtx_E T ln N 6) at1).1, ?_⟩, ?_, qCr_cat hr l3 l4⟩
  · rw [show (fun N => (qtx_W T ln N).1) = fun N => qtx_ge (gi N) (qtx_ln T ln (qtx_E T ln N 6) at1).1 (ge N) (qtx_ln T ln (qtx_E T ln N 6) at1).2.1 from funext fun N => by rw [e N]]
    exact y1 gi ge hY
  · rw [show (fun N => (qtx_W T ln N).1) = fun N => qtx_ge (gi N) (qtx_ln T ln (qtx_E T ln N 6) at1).1 (ge N) (qtx_ln T ln (qtx_E T ln N 6) at1).2.1 from funext fun N => by rw [e N]]
    exact qDep_ge (qDep_mo d1 l2) y2 (qDep_mo d2 l2) y3
theorem qRs_bad {ln : Int} {T : Nat → Int} {k : Nat} {at1 sz1 nm1 at2 sz2 nm2 sk2 : Int} {cd1 cd2 : Nat → Int} (h : qRs ln T (k + 1) at1 sz1 nm1 cd1) (hL : qRl ln (fun N => qtx_ln T ln (qtx_E T ln N 6) at1) at1 sz1 nm1 cd1 at2 sz2 nm2 sk2 cd2) (hc : sk2 = 1 ∨ (at2 < ln ∧ ¬ qtx_c T ln at2 = 59)) (sz3 nm3 : Int) (cd3 : Nat → Int) : qRt ln T at2 sz3 nm3 cd3 := by
  obtain ⟨hb, gi, ge, hY, d1, d2, hr, hw⟩ := h
  obtain ⟨lr, l1, l2, l3, l4, l5⟩ := hL
  refine Or.inr ⟨by omega, fun N => ?_⟩
  have e := l1 N
  rw [hw N, qtx_pg_st (by rw [e.1, e.2]; omega), e.1, e.2, if_neg (by omega)]
  exact ⟨rfl, rfl⟩
theorem qRt_cg {ln v sz2 nm2 : Int} {T T' cd cd' : Nat → Int} (hT : ∀ j : Nat, (j : Int) < ln → T j = T' j) (hc : ∀ k : Int, 0 ≤ k → k < sz2 → cd' k.toNat = cd k.toNat) (h : qRt ln T v sz2 nm2 cd) : qRt ln T' v sz2 nm2 cd' := by
  have e : ∀ N, qtx_W T' ln N = qtx_W T ln N := fun N => (qtx_W_cg hT N).symm
  rcases h with ⟨h1, h2, ⟨gi, h3⟩, h4, h5⟩ | ⟨h1, h2⟩
  · refine Or.inl ⟨h1, fun N => by rw [e N]; exact h2 N, ⟨gi, ?_⟩, ?_, fun k a b => by rw [hc k a b]; exact h5 k a b⟩
    · rw [show (fun N => (qtx_W T' ln N).1) = fun N => (qtx_W T ln N).1 from funext fun N => by rw [e N]]
      exact qtx_Y_fr h3 hc
    · rw [show (fun N => (qtx_W T' ln N).1) = fun N => (qtx_W T ln N).1 from funext fun N => by rw [e N]]
      exact h4
  · exact Or.inr ⟨h1, fun N => by rw [e N]; exact h2 N⟩
end
section
/-! the readers of texts, exactly -/
theorem qtx_b1 : ∀ c : Fin 256, qz_i2c ((c : Nat) : Int) = ((c : Nat) : Int) ∧ qz_i2b ((c : Nat) : Int) = (if (c : Nat) < 128 then ((c : Nat) : Int) else ((c : Nat) : Int) - 256) := by decide +kernel
theorem qtx_b2 {c : Int} (h : 0 ≤ c ∧ c ≤ 255) : qz_i2c c = c ∧ ((c < 128 ∧ qz_i2b c = c) ∨ (128 ≤ c ∧ qz_i2b c = c - 256)) := by
  have h1 := qtx_b1 ⟨c.toNat, by omega⟩
  have e : ((c.toNat : Nat) : Int) = c := by omega
  have h2 : qz_i2c ((c.toNat : Nat) : Int) = ((c.toNat : Nat) : Int) := h1.1
  have h3 : qz_i2b ((c.toNat : Nat) : Int) = (if c.toNat < 128 then ((c.toNat : Nat) : Int) else ((c.toNat : Nat) : Int) - 256) := h1.2
  rw [e] at h2 h3
  refine ⟨h2, ?_⟩
  by_cases k : c.toNat < 128
  · rw [if_pos k] at h3; exact Or.inl ⟨by omega, h3⟩
  · rw [if_neg k] at h3; exact Or.inr ⟨by omega, h3⟩
theorem qtx_c_b {t : Nat → Int} {ln a : Int} (hb : ∀ j : Nat, (j : Int) < ln → 0 ≤ t j ∧ t j ≤ 255) (h : 0 ≤ a) : -1 ≤ qtx_c t ln a ∧ qtx_c t ln a ≤ 255 := by
  have hc := qtx_c_c t ln a
  by_cases k : a < ln
  · have := hb a.toNat (by omega)
    omega
  · omega
def qtx_is (c v : Int) : Prop := (0 ≤ v ∧ v ≤ 8 ∧ (qe_bytes 4).getD v.toNat 0 = qz_i2b c) ∨ (v = -1 ∧ ∀ j : Nat, j < 9 → ¬ (qe_bytes 4).getD j 0 = qz_i2b c)
theorem qtx_is_nm {c v : Int} (h : 0 ≤ c ∧ c ≤ 255) (hv : qtx_is c v) : v = qtx_nm c := by
  have hb := (qtx_b2 h).2
  have hn := qtx_nm_c c
  rcases hv with ⟨h1, h2, h3⟩ | ⟨h1, h2⟩
  · obtain ⟨m, rfl⟩ : ∃ m : Nat, v = m := ⟨v.toNat, by omega⟩
    have hm : m = 0 ∨ m = 1 ∨ m = 2 ∨ m = 3 ∨ m = 4 ∨ m = 5 ∨ m = 6 ∨ m = 7 ∨ m = 8 := by omega
    rcases hm with rfl | rfl | rfl | rfl | rfl | rfl | rfl | rfl | rfl
    · have e : (102 : Int) = qz_i2b c := h3
      omega
    · have e : (110 : Int) = qz_i2b c := h3
      omega
    · have e : (99 : Int) = qz_i2b c := h3
      omega
    · have e : (119 : Int) = qz_i2b c := h3
      omega
    · have e : (118 : Int) = qz_i2b c := h3
      omega
    · have e : (108 : Int) = qz_i2b c := h3
      omega
    · have e : (107 : Int) = qz_i2b c := h3
      omega
    · have e : (111 : Int) = qz_i2b c := h3
      omega
    · have e : (100 : Int) = qz_i2b c := h3
      omega
  · have g0 : ¬ (102 : Int) = qz_i2b c := h2 0 (by decide)
    have g1 : ¬ (110 : Int) = qz_i2b c := h2 1 (by decide)
    have g2 : ¬ (99 : Int) = qz_i2b c := h2 2 (by decide)
    have g3 : ¬ (119 : Int) = qz_i2b c := h2 3 (by decide)
    have g4 : ¬ (118 : Int) = qz_i2b c := h2 4 (by decide)
    have g5 : ¬ (108 : Int) = qz_i2b c := h2 5 (by decide)
    have g6 : ¬ (107 : Int) = qz_i2b c := h2 6 (by decide)
    have g7 : ¬ (111 : Int) = qz_i2b c := h2 7 (by decide)
    have g8 : ¬ (100 : Int) = qz_i2b c := h2 8 (by decide)
    omega

set_option maxHeartbeats 4000000 in
set_option maxRecDepth 20000 in
theorem spx_cen {X : qm_X} {d : Nat} {w : qm_W} {a : Int} (ra : 0 ≤ a ∧ a ≤ 255)  : qm_T X (d + 1) 29 [.int (qz a)] (w) (fun r w' => w' = w ∧ ∃ v : Int, r = some (.int (qz v)) ∧ v = 1) := by
  refine qr_start (d := d + 0) qv_e29 (Nat.le_of_ble_eq_true rfl) ?_
  show qr_W X (d + 0) qx_e29 _ (0, [(0, .int (qz a))], [], w, 0, 0)
  refine qr_iload_n 1 rfl rfl rfl ?_
  refine qr_if_lt 15 4 rfl rfl rfl (by omega) (fun h1 => ?_) (fun h1 => ?_)
  · exact False.elim (by omega)
  · skip
    refine qr_iload_n 5 rfl rfl rfl ?_
    refine qr_sipush 8 rfl (by decide) rfl ?_
    refine qr_icmp_gt 15 11 rfl rfl rfl (by omega) (by omega) (fun h2 => ?_) (fun h2 => ?_)
    · exact False.elim (by omega)
    · skip
      refine qr_iconst 12 rfl rfl ?_
      refine qr_goto 16 rfl rfl ?_
      refine qr_retZ rfl rfl (by omega) (by decide) (by decide) ?_
      exact ⟨rfl, _, rfl, by omega⟩
set_option maxHeartbeats 4000000 in
set_option maxRecDepth 20000 in
theorem spx_ixc {L : Nat} {xs : Nat → Int} {vb : Bool} {d : Nat} {w : qm_W} {c : Int} (rc : 0 ≤ c ∧ c ≤ 255)  : qm_T (qe L xs vb) (d + 1) 31 [.ref 8, .int (qz c), .int (qz 0), .int (qz 9)] (w) (fun r w' => w' = w ∧ ∃ v : Int, r = some (.int (qz v)) ∧ qtx_is c v) := by
  refine qr_start (d := d + 0) qv_e31 (Nat.le_of_ble_eq_true rfl) ?_
  show qr_W (qe L xs vb) (d + 0) qx_e31 _ (0, [(0, .ref 8), (1, .int (qz c)), (2, .int (qz 0)), (3, .int (qz 9))], [], w, 0, 0)
  refine qr_iload_n 1 rfl rfl rfl ?_
  refine qr_i2b 2 rfl rfl ?_
  refine qr_topI (fun b hb => ?_)
  have rb : -2147483648 ≤ b ∧ b ≤ 2147483647 := by rw [hb]; exact qz_i2b_r _
  refine qr_istore [(4, .int (qz b)), (0, .ref 8), (1, .int (qz c)), (2, .int (qz 0)), (3, .int (qz 9))] 4 rfl (by decide) rfl rfl ?_
  refine qr_iload_n 5 rfl rfl rfl ?_
  refine qr_istore [(5, .int (qz 0)), (4, .int (qz b)), (0, .ref 8), (1, .int (qz c)), (2, .int (qz 0)), (3, .int (qz 9))] 7 rfl (by decide) rfl rfl ?_
  have loop : ∀ (n : Nat) (i : Int), 0 ≤ i ∧ i ≤ 9 → 9 - i < n → (∀ j : Nat, (j : Int) < i → ¬ (qe_bytes 4).getD j 0 = b) → qr_W (qe L xs vb) (d + 0) qx_e31 (fun r w' => w' = w ∧ ∃ v : Int, r = some (.int (qz v)) ∧ qtx_is c v) (7, [(5, .int (qz i)), (4, .int (qz b)), (0, .ref 8), (1, .int (qz c)), (2, .int (qz 0)), (3, .int (qz 9))], [], w, 0, 0) := by
    intro n
    induction n with
    | zero => intro i h1 h2 hq; omega
    | succ n ih =>
      intro i h1 h2 hq
      refine qr_iload 9 rfl rfl rfl ?_
      refine qr_iload_n 10 rfl rfl rfl ?_
      refine qr_icmp_ge 31 13 rfl rfl rfl (by omega) (by omega) (fun h3 => ?_) (fun h3 => ?_)
      · refine qr_iconst 32 rfl rfl ?_
        refine qr_retI rfl rfl (Nat.zero_le _) (Nat.zero_le _) ?_
        exact ⟨rfl, -1, rfl, Or.inr ⟨rfl, fun j hj => by rw [← hb]; exact hq j (by omega)⟩⟩
      · refine qr_aload_n 14 rfl rfl rfl ?_
        refine qr_iload 16 rfl rfl rfl ?_
        refine qr_bbload 17 rfl (by decide) rfl (by omega) (by decide) rfl ?_
        refine qr_topI (fun y hy => ?_)
        have ry : -2147483648 ≤ y ∧ y ≤ 2147483647 := by
          have h5 : ∀ k : Nat, k < 9 → -2147483648 ≤ (qe_bytes 4).getD k 0 ∧ (qe_bytes 4).getD k 0 ≤ 2147483647 := by decide +kernel
          rw [hy]
          exact h5 _ (by omega)
        refine qr_iload 19 rfl rfl rfl ?_
        refine qr_icmp_ne 25 22 rfl rfl rfl (by omega) (by omega) (fun h4 => ?_) (fun h4 => ?_)
        · refine qr_iincG (fun u => [(5, .int (qz u)), (4, .int (qz b)), (0, .ref 8), (1, .int (qz c)), (2, .int (qz 0)), (3, .int (qz 9))]) 28 rfl rfl (by decide) (fun _ => rfl) rfl (fun u hu => ?_)
          refine qr_goto 7 rfl rfl ?_
          refine ih u (by omega) (by omega) (fun j hj => ?_)
          by_cases e : j = i.toNat
          · rw [e, ← hy]; omega
          · exact hq j (by omega)
        · refine qr_iload 24 rfl rfl rfl ?_
          refine qr_retI rfl rfl (Nat.zero_le _) (Nat.zero_le _) ?_
          exact ⟨rfl, i, rfl, Or.inl ⟨by omega, by omega, by rw [← hb, ← hy]; omega⟩⟩
  exact loop 10 0 (by omega) (by omega) (fun j hj => False.elim (by omega))
set_option maxHeartbeats 4000000 in
set_option maxRecDepth 20000 in
theorem spx_lix {L : Nat} {xs : Nat → Int} {vb : Bool} {d : Nat} {w : qm_W} {c : Int} (rc : 0 ≤ c ∧ c ≤ 255)  : qm_T (qe L xs vb) (d + 2) 28 [.ref 8, .int (qz c), .int (qz 0), .int (qz 9)] (w) (fun r w' => w' = w ∧ ∃ v : Int, r = some (.int (qz v)) ∧ qtx_is c v) := by
  refine qr_start (d := d + 1) qv_e28 (Nat.le_of_ble_eq_true rfl) ?_
  show qr_W (qe L xs vb) (d + 1) qx_e28 _ (0, [(0, .ref 8), (1, .int (qz c)), (2, .int (qz 0)), (3, .int (qz 9))], [], w, 0, 0)
  refine qr_iload_n 1 rfl rfl rfl ?_
  refine qr_callN 4 rfl rfl rfl (spx_cen rc) ?_
  rintro _ _ ⟨rfl, b, rfl, hb⟩
  simp only [Option.toList, List.drop, List.cons_append, List.nil_append]
  refine qr_if_ne 9 7 rfl rfl rfl (by omega) (fun h1 => ?_) (fun h1 => ?_)
  · refine qr_iload_n 10 rfl rfl rfl ?_
    refine qr_iconst 11 rfl rfl ?_
    refine qr_callN 14 rfl rfl rfl (sp_mmax (by decide) (by decide)) ?_
    rintro _ _ ⟨rfl, b2, rfl, hb2⟩
    simp only [Option.toList, List.drop, List.cons_append, List.nil_append]
    have e2 : b2 = 0 := by omega
    subst e2
    refine qr_istore_n [(2, .int (qz 0)), (0, .ref 8), (1, .int (qz c)), (3, .int (qz 9))] 15 rfl (by decide) rfl rfl ?_
    refine qr_iload_n 16 rfl rfl rfl ?_
    refine qr_aload_n 17 rfl rfl rfl ?_
    refine qr_alen 18 rfl rfl (Or.inl (by decide)) rfl ?_
    refine qr_callN 21 rfl rfl rfl (sp_mmin (by decide) (by omega)) ?_
    rintro _ _ ⟨rfl, b3, rfl, hb3⟩
    simp only [Option.toList, List.drop, List.cons_append, List.nil_append]
    have e3 : b3 = 9 := by omega
    subst e3
    refine qr_istore_n [(3, .int (qz 9)), (2, .int (qz 0)), (0, .ref 8), (1, .int (qz c))] 22 rfl (by decide) rfl rfl ?_
    refine qr_iload_n 23 rfl rfl rfl ?_
    refine qr_iload_n 24 rfl rfl rfl ?_
    refine qr_icmp_lt 29 27 rfl rfl rfl (by omega) (by omega) (fun h2 => ?_) (fun h2 => ?_)
    · refine qr_aload_n 30 rfl rfl rfl ?_
      refine qr_iload_n 31 rfl rfl rfl ?_
      refine qr_iload_n 32 rfl rfl rfl ?_
      refine qr_iload_n 33 rfl rfl rfl ?_
      refine qr_callN 36 rfl rfl rfl (spx_ixc rc) ?_
      rintro _ _ ⟨rfl, v, rfl, hv⟩
      simp only [Option.toList, List.drop, List.cons_append, List.nil_append]
      refine qr_retI rfl rfl (Nat.zero_le _) (Nat.zero_le _) ?_
      exact ⟨rfl, _, rfl, hv⟩
    · exact False.elim (by omega)
  · exact False.elim (by omega)
set_option maxHeartbeats 4000000 in
set_option maxRecDepth 20000 in
theorem spx_six {L : Nat} {xs : Nat → Int} {vb : Bool} {d : Nat} {w : qm_W} {c : Int} (rc : 0 ≤ c ∧ c ≤ 255)  : qm_T (qe L xs vb) (d + 3) 27 [.ref 4, .int (qz c), .int (qz 0)] (w) (fun r w' => w' = w ∧ ∃ v : Int, r = some (.int (qz v)) ∧ qtx_is c v) := by
  refine qr_start (d := d + 2) qv_e27 (Nat.le_of_ble_eq_true rfl) ?_
  show qr_W (qe L xs vb) (d + 2) qx_e27 _ (0, [(0, .ref 4), (1, .int (qz c)), (2, .int (qz 0))], [], w, 0, 0)
  refine qr_aload_n 1 rfl rfl rfl ?_
  refine qr_callN 4 rfl rfl rfl (sp_lat4) ?_
  rintro _ _ ⟨rfl, rfl⟩
  simp only [Option.toList, List.drop, List.cons_append, List.nil_append]
  refine qr_if_eq (a := 1) 23 7 rfl rfl rfl (by decide) (fun h => absurd h (by decide)) (fun _ => ?_)
  refine qr_aload_n 8 rfl rfl rfl ?_
  refine qr_get 11 rfl rfl rfl (by decide) rfl ?_
  refine qr_iload_n 12 rfl rfl rfl ?_
  refine qr_iload_n 13 rfl rfl rfl ?_
  refine qr_aload_n 14 rfl rfl rfl ?_
  refine qr_callN 17 rfl rfl rfl (sp_len4) ?_
  rintro _ _ ⟨rfl, rfl⟩
  simp only [Option.toList, List.drop, List.cons_append, List.nil_append]
  refine qr_callN 20 rfl rfl rfl (spx_lix rc) ?_
  rintro _ _ ⟨rfl, v, rfl, hv⟩
  simp only [Option.toList, List.drop, List.cons_append, List.nil_append]
  refine qr_goto 36 rfl rfl ?_
  refine qr_retI rfl rfl (Nat.zero_le _) (Nat.zero_le _) ?_
  exact ⟨rfl, _, rfl, hv⟩
set_option maxHeartbeats 4000000 in
set_option maxRecDepth 20000 in
theorem spx_ix {L : Nat} {xs : Nat → Int} {vb : Bool} {d : Nat} {w : qm_W} {c : Int} (rc : 0 ≤ c ∧ c ≤ 255)  : qm_T (qe L xs vb) (d + 4) 26 [.ref 4, .int (qz c)] (w) (fun r w' => w' = w ∧ ∃ v : Int, r = some (.int (qz v)) ∧ qtx_is c v) := by
  refine qr_start (d := d + 3) qv_e26 (Nat.le_of_ble_eq_true rfl) ?_
  show qr_W (qe L xs vb) (d + 3) qx_e26 _ (0, [(0, .ref 4), (1, .int (qz c))], [], w, 0, 0)
  refine qr_aload_n 1 rfl rfl rfl ?_
  refine qr_iload_n 2 rfl rfl rfl ?_
  refine qr_iconst 3 rfl rfl ?_
  refine qr_callN 6 rfl rfl rfl (spx_six rc) ?_
  rintro _ _ ⟨rfl, v, rfl, hv⟩
  simp only [Option.toList, List.drop, List.cons_append, List.nil_append]
  refine qr_retI rfl rfl (Nat.zero_le _) (Nat.zero_le _) ?_
  exact ⟨rfl, _, rfl, hv⟩
set_option maxHeartbeats 4000000 in
set_option maxRecDepth 20000 in
theorem spx_isDigit {X : qm_X} {d : Nat} {w : qm_W} {s : Int} (rs : -2147483648 ≤ s ∧ s ≤ 2147483647)  : qm_T X (d + 1) 23 [.int (qz s)] (w) (fun r w' => w' = w ∧ ∃ b : Int, r = some (.int (qz b)) ∧ ((b = 1 ∧ 48 ≤ s ∧ s ≤ 57) ∨ (b = 0 ∧ ¬ (48 ≤ s ∧ s ≤ 57)))) := by
  refine qr_start (d := d + 0) qv_e23 (Nat.le_of_ble_eq_true rfl) ?_
  show qr_W X (d + 0) qx_e23 _ (0, [(0, .int (qz s))], [], w, 0, 0)
  refine qr_iload_n 1 rfl rfl rfl ?_
  refine qr_bipush 3 rfl (by decide) rfl ?_
  refine qr_icmp_lt 16 6 rfl rfl rfl (by omega) (by omega) (fun h1 => ?_) (fun h1 => ?_)
  · skip
    refine qr_iconst 17 rfl rfl ?_
    refine qr_retZ rfl rfl (by omega) (Nat.zero_le _) (Nat.zero_le _) ?_
    exact ⟨rfl, _, rfl, by omega⟩
  · skip
    refine qr_iload_n 7 rfl rfl rfl ?_
    refine qr_bipush 9 rfl (by decide) rfl ?_
    refine qr_icmp_gt 16 12 rfl rfl rfl (by omega) (by omega) (fun h2 => ?_) (fun h2 => ?_)
    · skip
      refine qr_iconst 17 rfl rfl ?_
      refine qr_retZ rfl rfl (by omega) (Nat.zero_le _) (Nat.zero_le _) ?_
      exact ⟨rfl, _, rfl, by omega⟩
    · skip
      refine qr_iconst 13 rfl rfl ?_
      refine qr_goto 17 rfl rfl ?_
      refine qr_retZ rfl rfl (by omega) (Nat.zero_le _) (Nat.zero_le _) ?_
      exact ⟨rfl, _, rfl, by omega⟩
set_option maxHeartbeats 4000000 in
set_option maxRecDepth 20000 in
theorem spx_levelOf {X : qm_X} {d : Nat} {w : qm_W} {s : Int} (rs : -2147483648 ≤ s ∧ s ≤ 2147483647)  : qm_T X (d + 1) 33 [.int (qz s)] (w) (fun r w' => w' = w ∧ ∃ b : Int, r = some (.int (qz b)) ∧ b = qtx_lo s) := by
  refine qr_start (d := d + 0) qv_e33 (Nat.le_of_ble_eq_true rfl) ?_
  show qr_W X (d + 0) qx_e33 _ (0, [(0, .int (qz s))], [], w, 0, 0)
  refine qr_iload_n 1 rfl rfl rfl ?_
  by_cases k1 : (37 : Int) = s
  · refine qr_look (off := 99) 100 rfl (by omega) (by decide) (by rw [← k1] <;> decide) rfl ?_
    refine qr_iconst 101 rfl rfl ?_
    refine qr_retI rfl rfl (Nat.zero_le _) (Nat.zero_le _) ?_
    exact ⟨rfl, _, rfl, by have hq := qtx_lo_c s; omega⟩
  by_cases k2 : (38 : Int) = s
  · refine qr_look (off := 93) 94 rfl (by omega) (by decide) (by rw [← k2] <;> decide) rfl ?_
    refine qr_iconst 95 rfl rfl ?_
    refine qr_retI rfl rfl (Nat.zero_le _) (Nat.zero_le _) ?_
    exact ⟨rfl, _, rfl, by have hq := qtx_lo_c s; omega⟩
  by_cases k3 : (42 : Int) = s
  · refine qr_look (off := 99) 100 rfl (by omega) (by decide) (by rw [← k3] <;> decide) rfl ?_
    refine qr_iconst 101 rfl rfl ?_
    refine qr_retI rfl rfl (Nat.zero_le _) (Nat.zero_le _) ?_
    exact ⟨rfl, _, rfl, by have hq := qtx_lo_c s; omega⟩
  by_cases k4 : (43 : Int) = s
  · refine qr_look (off := 97) 98 rfl (by omega) (by decide) (by rw [← k4] <;> decide) rfl ?_
    refine qr_iconst 99 rfl rfl ?_
    refine qr_retI rfl rfl (Nat.zero_le _) (Nat.zero_le _) ?_
    exact ⟨rfl, _, rfl, by have hq := qtx_lo_c s; omega⟩
  by_cases k5 : (45 : Int) = s
  · refine qr_look (off := 97) 98 rfl (by omega) (by decide) (by rw [← k5] <;> decide) rfl ?_
    refine qr_iconst 99 rfl rfl ?_
    refine qr_retI rfl rfl (Nat.zero_le _) (Nat.zero_le _) ?_
    exact ⟨rfl, _, rfl, by have hq := qtx_lo_c s; omega⟩
  by_cases k6 : (47 : Int) = s
  · refine qr_look (off := 99) 100 rfl (by omega) (by decide) (by rw [← k6] <;> decide) rfl ?_
    refine qr_iconst 101 rfl rfl ?_
    refine qr_retI rfl rfl (Nat.zero_le _) (Nat.zero_le _) ?_
    exact ⟨rfl, _, rfl, by have hq := qtx_lo_c s; omega⟩
  by_cases k7 : (60 : Int) = s
  · refine qr_look (off := 95) 96 rfl (by omega) (by decide) (by rw [← k7] <;> decide) rfl ?_
    refine qr_iconst 97 rfl rfl ?_
    refine qr_retI rfl rfl (Nat.zero_le _) (Nat.zero_le _) ?_
    exact ⟨rfl, _, rfl, by have hq := qtx_lo_c s; omega⟩
  by_cases k8 : (61 : Int) = s
  · refine qr_look (off := 95) 96 rfl (by omega) (by decide) (by rw [← k8] <;> decide) rfl ?_
    refine qr_iconst 97 rfl rfl ?_
    refine qr_retI rfl rfl (Nat.zero_le _) (Nat.zero_le _) ?_
    exact ⟨rfl, _, rfl, by have hq := qtx_lo_c s; omega⟩
  by_cases k9 : (62 : Int) = s
  · refine qr_look (off := 95) 96 rfl (by omega) (by decide) (by rw [← k9] <;> decide) rfl ?_
    refine qr_iconst 97 rfl rfl ?_
    refine qr_retI rfl rfl (Nat.zero_le _) (Nat.zero_le _) ?_
    exact ⟨rfl, _, rfl, by have hq := qtx_lo_c s; omega⟩
  by_cases k10 : (124 : Int) = s
  · refine qr_look (off := 91) 92 rfl (by omega) (by decide) (by rw [← k10] <;> decide) rfl ?_
    refine qr_iconst 93 rfl rfl ?_
    refine qr_retI rfl rfl (Nat.zero_le _) (Nat.zero_le _) ?_
    exact ⟨rfl, _, rfl, by have hq := qtx_lo_c s; omega⟩
  refine qr_look (off := 101) 102 rfl (by omega) (by decide) (by simp [Op.lookupswitch.offset_cons, Op.lookupswitch.offset_nil, k1, k2, k3, k4, k5, k6, k7, k8, k9, k10]) rfl ?_
  refine qr_iconst 103 rfl rfl ?_
  refine qr_retI rfl rfl (Nat.zero_le _) (Nat.zero_le _) ?_
  exact ⟨rfl, _, rfl, by have hq := qtx_lo_c s; omega⟩
set_option maxHeartbeats 4000000 in
set_option maxRecDepth 20000 in
theorem spx_next {X : qm_X} {d : Nat} {w : qm_W} {a : Nat} {ln at_ sz nm sk : Int} {t cd : Nat → Int} (hi : qc_in w a) (ht : ∀ j, -2147483648 ≤ t j ∧ t j ≤ 2147483647) (hl : 0 ≤ ln ∧ ln ≤ 120) (h0 : 0 ≤ at_ ∧ at_ ≤ ln ∧ 0 ≤ sz ∧ sz ≤ 122 ∧ -2147483648 ≤ nm ∧ nm ≤ 2147483647 ∧ (sk = 0 ∨ sk = 1))  : qm_T X (d + 1) 22 [.ref a] (qc w a ln at_ sz nm sk t cd) (fun r w' => w' = qc w a ln at_ sz nm sk t cd ∧ ∃ b : Int, r = some (.int (qz b)) ∧ (-2147483648 ≤ b ∧ b ≤ 2147483647) ∧ b = qtx_c t ln at_) := by
  refine qr_start (d := d + 0) qv_e22 (Nat.le_of_ble_eq_true rfl) ?_
  show qr_W X (d + 0) qx_e22 _ (0, [(0, .ref a)], [], qc w a ln at_ sz nm sk t cd, 0, 0)
  refine qr_aload_n 1 rfl rfl rfl ?_
  refine qr_cget4 hi 4 rfl rfl ?_
  refine qr_aload_n 5 rfl rfl rfl ?_
  refine qr_cget3 hi 8 rfl rfl ?_
  refine qr_icmp_ge 23 11 rfl rfl rfl (by omega) (by omega) (fun h1 => ?_) (fun h1 => ?_)
  · skip
    refine qr_iconst 24 rfl rfl ?_
    refine qr_retI rfl rfl (Nat.zero_le _) (Nat.zero_le _) ?_
    exact ⟨rfl, _, rfl, by omega, by have hq := qtx_c_c t ln at_; omega⟩
  · skip
    refine qr_aload_n 12 rfl rfl rfl ?_
    refine qr_cget0 hi 15 rfl rfl ?_
    refine qr_aload_n 16 rfl rfl rfl ?_
    refine qr_cget4 hi 19 rfl rfl ?_
    refine qr_ctload hi 20 rfl (by omega) rfl ?_
    refine qr_topI (fun v2 hv2 => ?_)
    have rv2 : -2147483648 ≤ v2 ∧ v2 ≤ 2147483647 := by rw [hv2]; exact ht _
    refine qr_goto 24 rfl rfl ?_
    refine qr_retI rfl rfl (Nat.zero_le _) (Nat.zero_le _) ?_
    exact ⟨rfl, _, rfl, by omega, by have hq := qtx_c_c t ln at_; omega⟩
set_option maxHeartbeats 4000000 in
set_option maxRecDepth 20000 in
theorem spx_emit {X : qm_X} {d : Nat} {w : qm_W} {a : Nat} {ln at_ sz nm sk : Int} {t cd : Nat → Int} (hi : qc_in w a) (hs : 0 ≤ sz ∧ sz ≤ 121) {s u : Int} (rs : 0 ≤ s ∧ s ≤ 126) (ru : 0 ≤ u ∧ u < 65536) : qm_T X (d + 1) 25 [.ref a, .int (qz s), .int (qz u)] (qc w a ln at_ sz nm sk t cd) (fun r w' => r = some (.int (qz sz)) ∧ w' = qc w a ln at_ (sz + 1) nm sk t (qzu cd (sz : Int).toNat (s * 65536 + u))) := by
  refine qr_start (d := d + 0) qv_e25 (Nat.le_of_ble_eq_true rfl) ?_
  show qr_W X (d + 0) qx_e25 _ (0, [(0, .ref a), (1, .int (qz s)), (2, .int (qz u))], [], qc w a ln at_ sz nm sk t cd, 0, 0)
  refine qr_aload_n 1 rfl rfl rfl ?_
  refine qr_cget5 hi 4 rfl rfl ?_
  refine qr_aload_n 5 rfl rfl rfl ?_
  refine qr_cget1 hi 8 rfl rfl ?_
  refine qr_cclen hi 9 rfl rfl ?_
  refine qr_icmp_lt 14 12 rfl rfl rfl (by omega) (by omega) (fun h1 => ?_) (fun h1 => False.elim (by omega))
  refine qr_aload_n 15 rfl rfl rfl ?_
  refine qr_cget1 hi 18 rfl rfl ?_
  refine qr_aload_n 19 rfl rfl rfl ?_
  refine qr_cget5 hi 22 rfl rfl ?_
  refine qr_iload_n 23 rfl rfl rfl ?_
  refine qr_bipush 25 rfl (by decide) rfl ?_
  refine qr_ishl 26 rfl rfl ?_
  refine qr_iload_n 27 rfl rfl rfl ?_
  refine qr_ior 28 rfl rfl ?_
  refine qr_topI (fun v hv => ?_)
  have ev : v = s * 65536 + u := by
    rw [hv]
    have e : qz_or (qz_shl s 16) u = s * 65536 + u := qtx_em rs ru
    exact e
  subst ev
  refine qr_ccstore hi 29 rfl (by omega) rfl ?_
  refine qr_aload_n 30 rfl rfl rfl ?_
  refine qr_dup 31 rfl rfl rfl ?_
  refine qr_cget5 hi 34 rfl rfl ?_
  refine qr_dup_x1 35 rfl rfl rfl rfl ?_
  refine qr_iconst 36 rfl rfl ?_
  refine qr_iadd 37 rfl rfl ?_
  refine qr_cput5 hi 40 rfl rfl ?_
  refine qr_retI rfl rfl (Nat.zero_le _) (Nat.zero_le _) ?_
  exact ⟨rfl, rfl⟩
set_option maxHeartbeats 4000000 in
set_option maxRecDepth 20000 in
theorem spx_pass {X : qm_X} {d : Nat} {w : qm_W} {a : Nat} {ln at_ sz nm sk : Int} {t cd : Nat → Int} (hi : qc_in w a) (ht : ∀ j, -2147483648 ≤ t j ∧ t j ≤ 2147483647) (hl : 0 ≤ ln ∧ ln ≤ 120) (h0 : 0 ≤ at_ ∧ at_ ≤ ln ∧ 0 ≤ sz ∧ sz ≤ 122 ∧ -2147483648 ≤ nm ∧ nm ≤ 2147483647 ∧ (sk = 0 ∨ sk = 1)) {s : Int} (rs : 0 ≤ s ∧ s ≤ 2147483647) : qm_T X (d + 2) 32 [.ref a, .int (qz s)] (qc w a ln at_ sz nm sk t cd) (fun r w' => r = none ∧ ∃ at2 sk2 : Int, w' = qc w a ln at2 sz nm sk2 t cd ∧ ((sk = 0 ∧ qtx_c t ln at_ = s ∧ at2 = at_ + 1 ∧ sk2 = 0) ∨ (¬ (sk = 0 ∧ qtx_c t ln at_ = s) ∧ at2 = at_ ∧ sk2 = 1))) := by
  refine qr_start (d := d + 1) qv_e32 (Nat.le_of_ble_eq_true rfl) ?_
  show qr_W X (d + 1) qx_e32 _ (0, [(0, .ref a), (1, .int (qz s))], [], qc w a ln at_ sz nm sk t cd, 0, 0)
  refine qr_aload_n 1 rfl rfl rfl ?_
  refine qr_cget7 hi 4 rfl rfl ?_
  refine qr_if_ne 15 7 rfl rfl rfl (by omega) (fun h1 => ?_) (fun h1 => ?_)
  · skip
    refine qr_aload_n 16 rfl rfl rfl ?_
    refine qr_iconst 17 rfl rfl ?_
    refine qr_cput7 hi (by omega) 20 rfl rfl ?_
    refine qr_goto 33 rfl rfl ?_
    refine qr_retV rfl rfl (Nat.zero_le _) (Nat.zero_le _) ?_
    exact ⟨rfl, _, _, rfl, by omega⟩
  · skip
    refine qr_aload_n 8 rfl rfl rfl ?_
    refine qr_ccall (as := []) (rest := []) hi 11 rfl rfl (Nat.le_of_ble_eq_true rfl) rfl rfl (spx_next hi ht hl (by omega)) ?_
    rintro _ _ ⟨rfl, b2, rfl, hb3, hc3⟩
    simp only [Option.toList, List.cons_append, List.nil_append]
    refine qr_iload_n 12 rfl rfl rfl ?_
    refine qr_icmp_eq 23 15 rfl rfl rfl (by omega) (by omega) (fun h4 => ?_) (fun h4 => ?_)
    · skip
      refine qr_aload_n 24 rfl rfl rfl ?_
      refine qr_dup 25 rfl rfl rfl ?_
      refine qr_cget4 hi 28 rfl rfl ?_
      refine qr_iconst 29 rfl rfl ?_
      refine qr_iadd 30 rfl rfl ?_
      refine qr_cput4 hi 33 rfl rfl ?_
      refine qr_retV rfl rfl (Nat.zero_le _) (Nat.zero_le _) ?_
      have h7 : sk = 0 := by omega
      subst h7
      exact ⟨rfl, _, _, rfl, by omega⟩
    · skip
      refine qr_aload_n 16 rfl rfl rfl ?_
      refine qr_iconst 17 rfl rfl ?_
      refine qr_cput7 hi (by omega) 20 rfl rfl ?_
      refine qr_goto 33 rfl rfl ?_
      refine qr_retV rfl rfl (Nat.zero_le _) (Nat.zero_le _) ?_
      exact ⟨rfl, _, _, rfl, by omega⟩
set_option maxHeartbeats 4000000 in
set_option maxRecDepth 20000 in
theorem spx_readNumber {X : qm_X} {d : Nat} {w : qm_W} {a : Nat} {ln at_ sz nm : Int} {t cd : Nat → Int} (hi : qc_in w a) (ht : ∀ j, -2147483648 ≤ t j ∧ t j ≤ 2147483647) (hb : ∀ j : Nat, (j : Int) < ln → 0 ≤ t j ∧ t j ≤ 255) (hl : 0 ≤ ln ∧ ln ≤ 120) (h0 : 0 ≤ at_ ∧ at_ ≤ ln ∧ 0 ≤ sz ∧ sz + ln - at_ ≤ 121 ∧ -2147483648 ≤ nm ∧ nm ≤ 2147483647) : qm_T X (d + 2) 24 [.ref a] (qc w a ln at_ sz nm 0 t cd) (fun r w' => r = none ∧ w' = qc w a ln (qtx_num t ln 4 0 at_).2 (sz + 1) nm 0 t (qzu cd (sz : Int).toNat (48 * 65536 + (qtx_num t ln 4 0 at_).1))) := by
  refine qr_start (d := d + 1) qv_e24 (Nat.le_of_ble_eq_true rfl) ?_
  show qr_W X (d + 1) qx_e24 _ (0, [(0, .ref a)], [], qc w a ln at_ sz nm 0 t cd, 0, 0)
  have hnb := qtx_num_b (T := t) (n := ln) 4 0 at_ (by omega) (by omega)
  have hpp : qtx_p 4 = 10000 := by decide
  have loop : ∀ (n : Nat) (i u at1 : Int), (i + n = 4 ∧ 0 ≤ i) → (0 ≤ at1 ∧ at1 ≤ ln ∧ 0 ≤ u) → qtx_num t ln 4 0 at_ = qtx_num t ln n u at1 → qr_W X (d + 1) qx_e24 (fun r w' => r = none ∧ w' = qc w a ln (qtx_num t ln 4 0 at_).2 (sz + 1) nm 0 t (qzu cd (sz : Int).toNat (48 * 65536 + (qtx_num t ln 4 0 at_).1))) (4, [(2, .int (qz i)), (1, .int (qz u)), (0, .ref a)], [], qc w a ln at1 sz nm 0 t cd, 0, 0) := by
    intro n
    induction n with
    | zero =>
      intro i u at1 hi4 h1 hq
      have hi5 : i = 4 := by omega
      subst hi5
      have hu : (qtx_num t ln 4 0 at_).1 = u := by rw [hq]; rfl
      refine qr_iload_n 5 rfl rfl rfl ?_
      refine qr_iconst 6 rfl rfl ?_
      refine qr_icmp_ge 48 9 rfl rfl rfl (by omega) (by omega) (fun _ => ?_) (fun h => False.elim (by omega))
      refine qr_aload_n 49 rfl rfl rfl ?_
      refine qr_bipush 51 rfl (by decide) rfl ?_
      refine qr_iload_n 52 rfl rfl rfl ?_
      refine qr_ccall (as := [.int (qz 48), .int (qz u)]) (rest := []) hi 55 rfl rfl (Nat.le_of_ble_eq_true rfl) rfl rfl (spx_emit hi (by omega) (by omega) (by omega)) ?_
      rintro _ _ ⟨rfl, rfl⟩
      simp only [Option.toList, List.cons_append, List.nil_append]
      refine qr_pop 56 rfl rfl rfl ?_
      refine qr_retV rfl rfl (Nat.zero_le _) (Nat.zero_le _) ?_
      rw [show qtx_num t ln 4 0 at_ = (u, at1) from hq]
      exact ⟨rfl, rfl⟩
    | succ n ih =>
      intro i u at1 hi4 h1 hq
      refine qr_iload_n 5 rfl rfl rfl ?_
      refine qr_iconst 6 rfl rfl ?_
      refine qr_icmp_ge 48 9 rfl rfl rfl (by omega) (by omega) (fun h1 => ?_) (fun h1 => ?_)
      · skip
        have e0 : qtx_num t ln (n + 1) u at1 = (u, at1) := qtx_num_st (by omega)
        have hu : (qtx_num t ln 4 0 at_).1 = u := by rw [hq, e0]
        refine qr_aload_n 49 rfl rfl rfl ?_
        refine qr_bipush 51 rfl (by decide) rfl ?_
        refine qr_iload_n 52 rfl rfl rfl ?_
        refine qr_ccall (as := [.int (qz 48), .int (qz u)]) (rest := []) hi 55 rfl rfl (Nat.le_of_ble_eq_true rfl) rfl rfl (spx_emit hi (by omega) (by omega) (by omega)) ?_
        rintro _ _ ⟨rfl, rfl⟩
        simp only [Option.toList, List.cons_append, List.nil_append]
        refine qr_pop 56 rfl rfl rfl ?_
        refine qr_retV rfl rfl (Nat.zero_le _) (Nat.zero_le _) ?_
        have e1 : qtx_num t ln (n + 1) u at1 = (u, at1) := qtx_num_st (by omega)
        rw [← hq] at e1
        rw [e1]
        exact ⟨rfl, rfl⟩
      · skip
        refine qr_aload_n 10 rfl rfl rfl ?_
        refine qr_ccall (as := []) (rest := []) hi 13 rfl rfl (Nat.le_of_ble_eq_true rfl) rfl rfl (spx_next hi ht hl (by omega)) ?_
        rintro _ _ ⟨rfl, b2, rfl, hb3, rfl⟩
        simp only [Option.toList, List.cons_append, List.nil_append]
        have hc4r := qtx_c_b (a := at1) hb (by omega)
        have hc4c := qtx_c_c t ln at1
        refine qr_callN 16 rfl rfl rfl (spx_isDigit (by omega)) ?_
        rintro _ _ ⟨rfl, b5, rfl, hb6⟩
        simp only [Option.toList, List.drop, List.cons_append, List.nil_append]
        refine qr_if_eq 48 19 rfl rfl rfl (by omega) (fun h7 => ?_) (fun h7 => ?_)
        · skip
          have e0 : qtx_num t ln (n + 1) u at1 = (u, at1) := qtx_num_st (by omega)
          have hu : (qtx_num t ln 4 0 at_).1 = u := by rw [hq, e0]
          refine qr_aload_n 49 rfl rfl rfl ?_
          refine qr_bipush 51 rfl (by decide) rfl ?_
          refine qr_iload_n 52 rfl rfl rfl ?_
          refine qr_ccall (as := [.int (qz 48), .int (qz u)]) (rest := []) hi 55 rfl rfl (Nat.le_of_ble_eq_true rfl) rfl rfl (spx_emit hi (by omega) (by omega) (by omega)) ?_
          rintro _ _ ⟨rfl, rfl⟩
          simp only [Option.toList, List.cons_append, List.nil_append]
          refine qr_pop 56 rfl rfl rfl ?_
          refine qr_retV rfl rfl (Nat.zero_le _) (Nat.zero_le _) ?_
          have e1 : qtx_num t ln (n + 1) u at1 = (u, at1) := qtx_num_st (by omega)
          rw [← hq] at e1
          rw [e1]
          exact ⟨rfl, rfl⟩
        · skip
          refine qr_iload_n 20 rfl rfl rfl ?_
          refine qr_bipush 22 rfl (by decide) rfl ?_
          refine qr_imul 23 rfl rfl ?_
          refine qr_aload_n 24 rfl rfl rfl ?_
          refine qr_ccall (as := []) (rest := [.int (qz (u * 10))]) hi 27 rfl rfl (Nat.le_of_ble_eq_true rfl) rfl rfl (spx_next hi ht hl (by omega)) ?_
          rintro _ _ ⟨rfl, b8, rfl, hb9, rfl⟩
          simp only [Option.toList, List.cons_append, List.nil_append]
          have hc10r := qtx_c_b (a := at1) hb (by omega)
          have hc10c := qtx_c_c t ln at1
          refine qr_iadd 28 rfl rfl ?_
          refine qr_bipush 30 rfl (by decide) rfl ?_
          refine qr_isub 31 rfl rfl ?_
          refine qr_istore_n [(1, .int (qz (((u * 10) + (qtx_c t ln at1)) - 48))), (2, .int (qz i)), (0, .ref a)] 32 rfl (by decide) rfl rfl ?_
          refine qr_aload_n 33 rfl rfl rfl ?_
          refine qr_dup 34 rfl rfl rfl ?_
          refine qr_cget4 hi 37 rfl rfl ?_
          refine qr_iconst 38 rfl rfl ?_
          refine qr_iadd 39 rfl rfl ?_
          refine qr_cput4 hi 42 rfl rfl ?_
          refine qr_iinc [(2, .int (qz (i + 1))), (1, .int (qz (((u * 10) + (qtx_c t ln at1)) - 48))), (0, .ref a)] 45 rfl rfl (by decide) rfl rfl ?_
          refine qr_goto 4 rfl rfl ?_
          refine ih (i + 1) (((u * 10) + (qtx_c t ln at1)) - 48) (at1 + 1) (by omega) (by omega) ?_
          rw [hq, qtx_num_go (by omega)]
          congr 1
          omega
  refine qr_iconst 1 rfl rfl ?_
  refine qr_istore_n [(1, .int (qz 0)), (0, .ref a)] 2 rfl (by decide) rfl rfl ?_
  refine qr_iconst 3 rfl rfl ?_
  refine qr_istore_n [(2, .int (qz 0)), (1, .int (qz 0)), (0, .ref a)] 4 rfl (by decide) rfl rfl ?_
  exact loop 4 0 0 at_ (by omega) (by omega) rfl

/-- what a reader leaves behind, exactly -/
abbrev qpx (w : qm_W) (a : Nat) (ln : Int) (t : Nat → Int) (F : (Nat → Int) → Int → qtx_3) (at_ sz nm : Int) (cd : Nat → Int) : Option Value → qm_W → Prop := fun r w' => r = none ∧ ∃ (at2 sz2 nm2 sk2 : Int) (cd2 : Nat → Int), w' = qc w a ln at2 sz2 nm2 sk2 t cd2 ∧ qRd ln (fun N => F N at_) at_ sz nm cd at2 sz2 nm2 sk2 cd2
theorem qtx_on_o {T : Nat → Int} {n : Int} {N : Nat → Int} {r : Nat} {a : Int} (h : (r = 0 ∨ (¬ qtx_c T n a = 40 ∧ ¬ qtx_c T n a = 33 ∧ ¬ qtx_c T n a = 45))) : qtx_on T n N r a = qtx_oo T n N a := by
  cases r with
  | zero => rfl
  | succ r =>
    have h1 : ¬ qtx_c T n a = 40 ∧ ¬ qtx_c T n a = 33 ∧ ¬ qtx_c T n a = 45 := by omega
    exact (if_neg h1.1).trans (if_neg (by omega))
theorem qtx_on_p {T : Nat → Int} {n : Int} {N : Nat → Int} {r : Nat} {a : Int} (hr : 0 < r) (h : qtx_c T n a = 40) : qtx_on T n N r a = qtx_pc T n (qtx_E T n N (r - 1) (a + 1)) := by
  obtain ⟨m, rfl⟩ : ∃ m, r = m + 1 := ⟨r - 1, by omega⟩
  exact if_pos h
theorem qtx_on_u {T : Nat → Int} {n : Int} {N : Nat → Int} {r : Nat} {a c : Int} (hr : 0 < r) (h : qtx_c T n a = c) (hc : c = 33 ∨ c = 45) : qtx_on T n N r a = qtx_un c (qtx_on T n N (r - 1) (a + 1)) := by
  obtain ⟨m, rfl⟩ : ∃ m, r = m + 1 := ⟨r - 1, by omega⟩
  refine (if_neg (by omega)).trans ((if_pos (by omega)).trans ?_)
  rw [h]
  rfl
theorem qtx_oo_n {T : Nat → Int} {n : Int} {N : Nat → Int} {a : Int} (h : 0 ≤ qtx_nm (qtx_c T n a)) : qtx_oo T n N a = (N (qtx_nm (qtx_c T n a)).toNat, a + 1, 0) := if_pos h
theorem qtx_oo_d {T : Nat → Int} {n : Int} {N : Nat → Int} {a : Int} (h : 48 ≤ qtx_c T n a ∧ qtx_c T n a ≤ 57) : qtx_oo T n N a = ((qtx_num T n 4 0 a).1, (qtx_num T n 4 0 a).2, 0) := by
  have hn := qtx_nm_c (qtx_c T n a)
  exact (if_neg (by omega)).trans (if_pos h)
theorem qtx_oo_b {T : Nat → Int} {n : Int} {N : Nat → Int} {a : Int} (h1 : qtx_nm (qtx_c T n a) < 0) (h2 : ¬ (48 ≤ qtx_c T n a ∧ qtx_c T n a ≤ 57)) : qtx_oo T n N a = (0, a, 1) := (if_neg (by omega)).trans (if_neg h2)

theorem qbi_or1 {nm m k : Int} (hm : 0 ≤ m ∧ m < 9) (h1 : 0 ≤ k) (h2 : k < 32) : qbi (qz_or nm (qz_shl 1 m)) k = 1 ↔ qbi nm k = 1 ∨ k = m := by
  rw [qbi_or, qbi_shl (by omega) h1]
  by_cases e : k = m
  · rw [if_pos e, if_pos (Or.inr rfl)]
    exact ⟨fun _ => Or.inr e, fun _ => rfl⟩
  · rw [if_neg e]
    by_cases f : qbi nm k = 1
    · rw [if_pos (Or.inl f)]
      exact ⟨fun _ => Or.inl f, fun _ => rfl⟩
    · rw [if_neg (by omega)]
      exact ⟨fun h => absurd h (by decide), fun h => by omega⟩
theorem qtx_num_gt {T : Nat → Int} {n a : Int} (h : 48 ≤ qtx_c T n a ∧ qtx_c T n a ≤ 57) (ha : 0 ≤ a ∧ a ≤ n) : a < (qtx_num T n 4 0 a).2 := by
  have hc := qtx_c_c T n a
  rw [qtx_num_go h]
  have hb := qtx_num_b (T := T) (n := n) 3 (10 * 0 + qtx_c T n a - 48) (a + 1) (by omega) (by omega)
  omega

set_option maxHeartbeats 4000000 in
set_option maxRecDepth 20000 in
theorem spx_opS {L : Nat} {xs : Nat → Int} {vb : Bool} {d : Nat} {w : qm_W} {a : Nat} {ln at_ sz nm : Int} {t cd : Nat → Int} (hi : qc_in w a) (ht : ∀ j, -2147483648 ≤ t j ∧ t j ≤ 2147483647) (hb : ∀ j : Nat, (j : Int) < ln → 0 ≤ t j ∧ t j ≤ 255) (hl : 0 ≤ ln ∧ ln ≤ 120) (h0 : 0 ≤ at_ ∧ at_ ≤ ln ∧ 0 ≤ sz ∧ sz + ln - at_ ≤ 121 ∧ -2147483648 ≤ nm ∧ nm ≤ 2147483647) {op : Int} {r : Nat} (ho : 0 ≤ op ∧ op ≤ 6 ∧ (r : Int) = 6 - op) (iho : op < 6 → ∀ v : Int, v = op + 1 → ∀ (at1 sz1 nm1 : Int) (cd1 : Nat → Int), (0 ≤ at1 ∧ at1 ≤ ln ∧ 0 ≤ sz1 ∧ sz1 + ln - at1 ≤ 121 ∧ -2147483648 ≤ nm1 ∧ nm1 ≤ 2147483647) → qm_T (qe L xs vb) (d + 5) 21 [.ref a, .int (qz v)] (qc w a ln at1 sz1 nm1 0 t cd1) (qpx w a ln t (fun N b => qtx_on t ln N (r - 1) b) at1 sz1 nm1 cd1)) (ihp : op < 6 → ∀ v : Int, v = op + 1 → ∀ (at1 sz1 nm1 : Int) (cd1 : Nat → Int), (0 ≤ at1 ∧ at1 ≤ ln ∧ 0 ≤ sz1 ∧ sz1 + ln - at1 ≤ 121 ∧ -2147483648 ≤ nm1 ∧ nm1 ≤ 2147483647) → qm_T (qe L xs vb) (d + 5) 20 [.ref a, .int (qz 0), .int (qz v)] (qc w a ln at1 sz1 nm1 0 t cd1) (qpx w a ln t (fun N b => qtx_E t ln N (r - 1) b) at1 sz1 nm1 cd1)) : qm_T (qe L xs vb) (d + 6) 21 [.ref a, .int (qz op)] (qc w a ln at_ sz nm 0 t cd) (qpx w a ln t (fun N b => qtx_on t ln N r b) at_ sz nm cd) := by
  refine qr_start (d := d + 5) qv_e21 (Nat.le_of_ble_eq_true rfl) ?_
  show qr_W (qe L xs vb) (d + 5) qx_e21 _ (0, [(0, .ref a), (1, .int (qz op))], [], qc w a ln at_ sz nm 0 t cd, 0, 0)
  refine qr_aload_n 1 rfl rfl rfl ?_
  refine qr_ccall (as := []) (rest := []) hi 4 rfl rfl (Nat.le_of_ble_eq_true rfl) rfl rfl (spx_next hi ht hl (by omega)) ?_
  rintro _ _ ⟨rfl, b1, rfl, hb2, rfl⟩
  simp only [Option.toList, List.cons_append, List.nil_append]
  have hc3r := qtx_c_b (a := at_) hb (by omega)
  have hc3c := qtx_c_c t ln at_
  refine qr_istore_n [(2, .int (qz (qtx_c t ln at_))), (0, .ref a), (1, .int (qz op))] 5 rfl (by decide) rfl rfl ?_
  refine qr_aload_n 6 rfl rfl rfl ?_
  refine qr_cget7 hi 9 rfl rfl ?_
  refine qr_if_eq 13 12 rfl rfl rfl (by omega) (fun _ => ?_) (fun h => False.elim (by omega))
  refine qr_iload_n 14 rfl rfl rfl ?_
  refine qr_callN 17 rfl rfl rfl (spx_isDigit (by omega)) ?_
  rintro _ _ ⟨rfl, b4, rfl, hb5⟩
  simp only [Option.toList, List.drop, List.cons_append, List.nil_append]
  refine qr_if_eq 27 20 rfl rfl rfl (by omega) (fun h6 => ?_) (fun h6 => ?_)
  · skip
    refine qr_iload_n 28 rfl rfl rfl ?_
    refine qr_if_lt 82 31 rfl rfl rfl (by omega) (fun h7 => ?_) (fun h7 => ?_)
    · skip
      refine qr_iload_n 83 rfl rfl rfl ?_
      refine qr_bipush 85 rfl (by decide) rfl ?_
      refine qr_icmp_ge 121 88 rfl rfl rfl (by omega) (by omega) (fun h8 => ?_) (fun h8 => ?_)
      · skip
        refine qr_iload_n 122 rfl rfl rfl ?_
        refine qr_bipush 124 rfl (by decide) rfl ?_
        refine qr_icmp_ge 178 127 rfl rfl rfl (by omega) (by omega) (fun h9 => ?_) (fun h9 => ?_)
        · skip
          refine qr_aload_n 179 rfl rfl rfl ?_
          refine qr_iconst 180 rfl rfl ?_
          refine qr_cput7 hi (by omega) 183 rfl rfl ?_
          refine qr_retV rfl rfl (Nat.zero_le _) (Nat.zero_le _) ?_
          have hcn := qtx_nm_c (qtx_c t ln at_)
          first | exact ⟨rfl, _, _, _, _, _, rfl, (qRd_st cd (by omega) (by omega) (by omega) (fun N => (qtx_on_o (by omega)).trans (qtx_oo_b (by omega) (by omega))))⟩ | exact False.elim (by omega)
        · skip
          refine qr_iload_n 128 rfl rfl rfl ?_
          refine qr_bipush 130 rfl (by decide) rfl ?_
          refine qr_icmp_eq 139 133 rfl rfl rfl (by omega) (by omega) (fun h10 => ?_) (fun h10 => ?_)
          · skip
            refine qr_aload_n 140 rfl rfl rfl ?_
            refine qr_dup 141 rfl rfl rfl ?_
            refine qr_cget4 hi 144 rfl rfl ?_
            refine qr_iconst 145 rfl rfl ?_
            refine qr_iadd 146 rfl rfl ?_
            refine qr_cput4 hi 149 rfl rfl ?_
            refine qr_aload_n 150 rfl rfl rfl ?_
            refine qr_iload_n 151 rfl rfl rfl ?_
            refine qr_iconst 152 rfl rfl ?_
            refine qr_iadd 153 rfl rfl ?_
            refine qr_ccall (as := [.int (qz (op + 1))]) (rest := []) hi 156 rfl rfl (Nat.le_of_ble_eq_true rfl) rfl rfl (iho (by omega) _ rfl _ _ _ _ (by omega)) ?_
            rintro _ _ ⟨rfl, at11, sz12, nm13, sk14, cd15, rfl, hr16⟩
            simp only [Option.toList, List.cons_append, List.nil_append]
            have hr16q : qRd ln (fun N => qtx_on t ln N (r - 1) (at_ + 1)) (at_ + 1) sz nm cd at11 sz12 nm13 sk14 cd15 := hr16
            have hr16b := hr16q.1
            refine qr_aload_n 157 rfl rfl rfl ?_
            refine qr_iload_n 158 rfl rfl rfl ?_
            refine qr_bipush 160 rfl (by decide) rfl ?_
            refine qr_icmp_ne 168 163 rfl rfl rfl (by omega) (by omega) (fun h17 => ?_) (fun h17 => ?_)
            · skip
              refine qr_bipush 170 rfl (by decide) rfl ?_
              refine qr_iconst 171 rfl rfl ?_
              refine qr_ccall (as := [.int (qz 126), .int (qz 0)]) (rest := []) hi 174 rfl rfl (Nat.le_of_ble_eq_true rfl) rfl rfl (spx_emit hi (by omega) (by omega) (by omega)) ?_
              rintro _ _ ⟨rfl, rfl⟩
              simp only [Option.toList, List.cons_append, List.nil_append]
              refine qr_pop 175 rfl rfl rfl ?_
              refine qr_goto 183 rfl rfl ?_
              refine qr_retV rfl rfl (Nat.zero_le _) (Nat.zero_le _) ?_
              first | exact ⟨rfl, _, _, _, _, _, rfl, (qRd_un (c := 45) (e := 126) hr16q (by omega) (by omega) (fun N => qtx_on_u (by omega) (by omega) (by omega)))⟩ | exact False.elim (by omega)
            · skip
              refine qr_bipush 165 rfl (by decide) rfl ?_
              refine qr_goto 170 rfl rfl ?_
              refine qr_iconst 171 rfl rfl ?_
              refine qr_ccall (as := [.int (qz 33), .int (qz 0)]) (rest := []) hi 174 rfl rfl (Nat.le_of_ble_eq_true rfl) rfl rfl (spx_emit hi (by omega) (by omega) (by omega)) ?_
              rintro _ _ ⟨rfl, rfl⟩
              simp only [Option.toList, List.cons_append, List.nil_append]
              refine qr_pop 175 rfl rfl rfl ?_
              refine qr_goto 183 rfl rfl ?_
              refine qr_retV rfl rfl (Nat.zero_le _) (Nat.zero_le _) ?_
              first | exact ⟨rfl, _, _, _, _, _, rfl, (qRd_un (c := 33) (e := 33) hr16q (by omega) (by omega) (fun N => qtx_on_u (by omega) (by omega) (by omega)))⟩ | exact False.elim (by omega)
          · skip
            refine qr_iload_n 134 rfl rfl rfl ?_
            refine qr_bipush 136 rfl (by decide) rfl ?_
            refine qr_icmp_ne 178 139 rfl rfl rfl (by omega) (by omega) (fun h18 => ?_) (fun h18 => ?_)
            · skip
              refine qr_aload_n 179 rfl rfl rfl ?_
              refine qr_iconst 180 rfl rfl ?_
              refine qr_cput7 hi (by omega) 183 rfl rfl ?_
              refine qr_retV rfl rfl (Nat.zero_le _) (Nat.zero_le _) ?_
              have hcn := qtx_nm_c (qtx_c t ln at_)
              first | exact ⟨rfl, _, _, _, _, _, rfl, (qRd_st cd (by omega) (by omega) (by omega) (fun N => (qtx_on_o (by omega)).trans (qtx_oo_b (by omega) (by omega))))⟩ | exact False.elim (by omega)
            · skip
              refine qr_aload_n 140 rfl rfl rfl ?_
              refine qr_dup 141 rfl rfl rfl ?_
              refine qr_cget4 hi 144 rfl rfl ?_
              refine qr_iconst 145 rfl rfl ?_
              refine qr_iadd 146 rfl rfl ?_
              refine qr_cput4 hi 149 rfl rfl ?_
              refine qr_aload_n 150 rfl rfl rfl ?_
              refine qr_iload_n 151 rfl rfl rfl ?_
              refine qr_iconst 152 rfl rfl ?_
              refine qr_iadd 153 rfl rfl ?_
              refine qr_ccall (as := [.int (qz (op + 1))]) (rest := []) hi 156 rfl rfl (Nat.le_of_ble_eq_true rfl) rfl rfl (iho (by omega) _ rfl _ _ _ _ (by omega)) ?_
              rintro _ _ ⟨rfl, at19, sz20, nm21, sk22, cd23, rfl, hr24⟩
              simp only [Option.toList, List.cons_append, List.nil_append]
              have hr24q : qRd ln (fun N => qtx_on t ln N (r - 1) (at_ + 1)) (at_ + 1) sz nm cd at19 sz20 nm21 sk22 cd23 := hr24
              have hr24b := hr24q.1
              refine qr_aload_n 157 rfl rfl rfl ?_
              refine qr_iload_n 158 rfl rfl rfl ?_
              refine qr_bipush 160 rfl (by decide) rfl ?_
              refine qr_icmp_ne 168 163 rfl rfl rfl (by omega) (by omega) (fun h25 => ?_) (fun h25 => ?_)
              · skip
                refine qr_bipush 170 rfl (by decide) rfl ?_
                refine qr_iconst 171 rfl rfl ?_
                refine qr_ccall (as := [.int (qz 126), .int (qz 0)]) (rest := []) hi 174 rfl rfl (Nat.le_of_ble_eq_true rfl) rfl rfl (spx_emit hi (by omega) (by omega) (by omega)) ?_
                rintro _ _ ⟨rfl, rfl⟩
                simp only [Option.toList, List.cons_append, List.nil_append]
                refine qr_pop 175 rfl rfl rfl ?_
                refine qr_goto 183 rfl rfl ?_
                refine qr_retV rfl rfl (Nat.zero_le _) (Nat.zero_le _) ?_
                first | exact ⟨rfl, _, _, _, _, _, rfl, (qRd_un (c := 45) (e := 126) hr24q (by omega) (by omega) (fun N => qtx_on_u (by omega) (by omega) (by omega)))⟩ | exact False.elim (by omega)
              · skip
                refine qr_bipush 165 rfl (by decide) rfl ?_
                refine qr_goto 170 rfl rfl ?_
                refine qr_iconst 171 rfl rfl ?_
                refine qr_ccall (as := [.int (qz 33), .int (qz 0)]) (rest := []) hi 174 rfl rfl (Nat.le_of_ble_eq_true rfl) rfl rfl (spx_emit hi (by omega) (by omega) (by omega)) ?_
                rintro _ _ ⟨rfl, rfl⟩
                simp only [Option.toList, List.cons_append, List.nil_append]
                refine qr_pop 175 rfl rfl rfl ?_
                refine qr_goto 183 rfl rfl ?_
                refine qr_retV rfl rfl (Nat.zero_le _) (Nat.zero_le _) ?_
                first | exact ⟨rfl, _, _, _, _, _, rfl, (qRd_un (c := 33) (e := 33) hr24q (by omega) (by omega) (fun N => qtx_on_u (by omega) (by omega) (by omega)))⟩ | exact False.elim (by omega)
      · skip
        refine qr_iload_n 89 rfl rfl rfl ?_
        refine qr_bipush 91 rfl (by decide) rfl ?_
        refine qr_icmp_ne 121 94 rfl rfl rfl (by omega) (by omega) (fun h26 => ?_) (fun h26 => ?_)
        · skip
          refine qr_iload_n 122 rfl rfl rfl ?_
          refine qr_bipush 124 rfl (by decide) rfl ?_
          refine qr_icmp_ge 178 127 rfl rfl rfl (by omega) (by omega) (fun h27 => ?_) (fun h27 => ?_)
          · skip
            refine qr_aload_n 179 rfl rfl rfl ?_
            refine qr_iconst 180 rfl rfl ?_
            refine qr_cput7 hi (by omega) 183 rfl rfl ?_
            refine qr_retV rfl rfl (Nat.zero_le _) (Nat.zero_le _) ?_
            have hcn := qtx_nm_c (qtx_c t ln at_)
            first | exact ⟨rfl, _, _, _, _, _, rfl, (qRd_st cd (by omega) (by omega) (by omega) (fun N => (qtx_on_o (by omega)).trans (qtx_oo_b (by omega) (by omega))))⟩ | exact False.elim (by omega)
          · skip
            refine qr_iload_n 128 rfl rfl rfl ?_
            refine qr_bipush 130 rfl (by decide) rfl ?_
            refine qr_icmp_eq 139 133 rfl rfl rfl (by omega) (by omega) (fun h28 => ?_) (fun h28 => ?_)
            · skip
              refine qr_aload_n 140 rfl rfl rfl ?_
              refine qr_dup 141 rfl rfl rfl ?_
              refine qr_cget4 hi 144 rfl rfl ?_
              refine qr_iconst 145 rfl rfl ?_
              refine qr_iadd 146 rfl rfl ?_
              refine qr_cput4 hi 149 rfl rfl ?_
              refine qr_aload_n 150 rfl rfl rfl ?_
              refine qr_iload_n 151 rfl rfl rfl ?_
              refine qr_iconst 152 rfl rfl ?_
              refine qr_iadd 153 rfl rfl ?_
              refine qr_ccall (as := [.int (qz (op + 1))]) (rest := []) hi 156 rfl rfl (Nat.le_of_ble_eq_true rfl) rfl rfl (iho (by omega) _ rfl _ _ _ _ (by omega)) ?_
              rintro _ _ ⟨rfl, at29, sz30, nm31, sk32, cd33, rfl, hr34⟩
              simp only [Option.toList, List.cons_append, List.nil_append]
              have hr34q : qRd ln (fun N => qtx_on t ln N (r - 1) (at_ + 1)) (at_ + 1) sz nm cd at29 sz30 nm31 sk32 cd33 := hr34
              have hr34b := hr34q.1
              refine qr_aload_n 157 rfl rfl rfl ?_
              refine qr_iload_n 158 rfl rfl rfl ?_
              refine qr_bipush 160 rfl (by decide) rfl ?_
              refine qr_icmp_ne 168 163 rfl rfl rfl (by omega) (by omega) (fun h35 => ?_) (fun h35 => ?_)
              · skip
                refine qr_bipush 170 rfl (by decide) rfl ?_
                refine qr_iconst 171 rfl rfl ?_
                refine qr_ccall (as := [.int (qz 126), .int (qz 0)]) (rest := []) hi 174 rfl rfl (Nat.le_of_ble_eq_true rfl) rfl rfl (spx_emit hi (by omega) (by omega) (by omega)) ?_
                rintro _ _ ⟨rfl, rfl⟩
                simp only [Option.toList, List.cons_append, List.nil_append]
                refine qr_pop 175 rfl rfl rfl ?_
                refine qr_goto 183 rfl rfl ?_
                refine qr_retV rfl rfl (Nat.zero_le _) (Nat.zero_le _) ?_
                first | exact ⟨rfl, _, _, _, _, _, rfl, (qRd_un (c := 45) (e := 126) hr34q (by omega) (by omega) (fun N => qtx_on_u (by omega) (by omega) (by omega)))⟩ | exact False.elim (by omega)
              · skip
                refine qr_bipush 165 rfl (by decide) rfl ?_
                refine qr_goto 170 rfl rfl ?_
                refine qr_iconst 171 rfl rfl ?_
                refine qr_ccall (as := [.int (qz 33), .int (qz 0)]) (rest := []) hi 174 rfl rfl (Nat.le_of_ble_eq_true rfl) rfl rfl (spx_emit hi (by omega) (by omega) (by omega)) ?_
                rintro _ _ ⟨rfl, rfl⟩
                simp only [Option.toList, List.cons_append, List.nil_append]
                refine qr_pop 175 rfl rfl rfl ?_
                refine qr_goto 183 rfl rfl ?_
                refine qr_retV rfl rfl (Nat.zero_le _) (Nat.zero_le _) ?_
                first | exact ⟨rfl, _, _, _, _, _, rfl, (qRd_un (c := 33) (e := 33) hr34q (by omega) (by omega) (fun N => qtx_on_u (by omega) (by omega) (by omega)))⟩ | exact False.elim (by omega)
            · skip
              refine qr_iload_n 134 rfl rfl rfl ?_
              refine qr_bipush 136 rfl (by decide) rfl ?_
              refine qr_icmp_ne 178 139 rfl rfl rfl (by omega) (by omega) (fun h36 => ?_) (fun h36 => ?_)
              · skip
                refine qr_aload_n 179 rfl rfl rfl ?_
                refine qr_iconst 180 rfl rfl ?_
                refine qr_cput7 hi (by omega) 183 rfl rfl ?_
                refine qr_retV rfl rfl (Nat.zero_le _) (Nat.zero_le _) ?_
                have hcn := qtx_nm_c (qtx_c t ln at_)
                first | exact ⟨rfl, _, _, _, _, _, rfl, (qRd_st cd (by omega) (by omega) (by omega) (fun N => (qtx_on_o (by omega)).trans (qtx_oo_b (by omega) (by omega))))⟩ | exact False.elim (by omega)
              · skip
                refine qr_aload_n 140 rfl rfl rfl ?_
                refine qr_dup 141 rfl rfl rfl ?_
                refine qr_cget4 hi 144 rfl rfl ?_
                refine qr_iconst 145 rfl rfl ?_
                refine qr_iadd 146 rfl rfl ?_
                refine qr_cput4 hi 149 rfl rfl ?_
                refine qr_aload_n 150 rfl rfl rfl ?_
                refine qr_iload_n 151 rfl rfl rfl ?_
                refine qr_iconst 152 rfl rfl ?_
                refine qr_iadd 153 rfl rfl ?_
                refine qr_ccall (as := [.int (qz (op + 1))]) (rest := []) hi 156 rfl rfl (Nat.le_of_ble_eq_true rfl) rfl rfl (iho (by omega) _ rfl _ _ _ _ (by omega)) ?_
                rintro _ _ ⟨rfl, at37, sz38, nm39, sk40, cd41, rfl, hr42⟩
                simp only [Option.toList, List.cons_append, List.nil_append]
                have hr42q : qRd ln (fun N => qtx_on t ln N (r - 1) (at_ + 1)) (at_ + 1) sz nm cd at37 sz38 nm39 sk40 cd41 := hr42
                have hr42b := hr42q.1
                refine qr_aload_n 157 rfl rfl rfl ?_
                refine qr_iload_n 158 rfl rfl rfl ?_
                refine qr_bipush 160 rfl (by decide) rfl ?_
                refine qr_icmp_ne 168 163 rfl rfl rfl (by omega) (by omega) (fun h43 => ?_) (fun h43 => ?_)
                · skip
                  refine qr_bipush 170 rfl (by decide) rfl ?_
                  refine qr_iconst 171 rfl rfl ?_
                  refine qr_ccall (as := [.int (qz 126), .int (qz 0)]) (rest := []) hi 174 rfl rfl (Nat.le_of_ble_eq_true rfl) rfl rfl (spx_emit hi (by omega) (by omega) (by omega)) ?_
                  rintro _ _ ⟨rfl, rfl⟩
                  simp only [Option.toList, List.cons_append, List.nil_append]
                  refine qr_pop 175 rfl rfl rfl ?_
                  refine qr_goto 183 rfl rfl ?_
                  refine qr_retV rfl rfl (Nat.zero_le _) (Nat.zero_le _) ?_
                  first | exact ⟨rfl, _, _, _, _, _, rfl, (qRd_un (c := 45) (e := 126) hr42q (by omega) (by omega) (fun N => qtx_on_u (by omega) (by omega) (by omega)))⟩ | exact False.elim (by omega)
                · skip
                  refine qr_bipush 165 rfl (by decide) rfl ?_
                  refine qr_goto 170 rfl rfl ?_
                  refine qr_iconst 171 rfl rfl ?_
                  refine qr_ccall (as := [.int (qz 33), .int (qz 0)]) (rest := []) hi 174 rfl rfl (Nat.le_of_ble_eq_true rfl) rfl rfl (spx_emit hi (by omega) (by omega) (by omega)) ?_
                  rintro _ _ ⟨rfl, rfl⟩
                  simp only [Option.toList, List.cons_append, List.nil_append]
                  refine qr_pop 175 rfl rfl rfl ?_
                  refine qr_goto 183 rfl rfl ?_
                  refine qr_retV rfl rfl (Nat.zero_le _) (Nat.zero_le _) ?_
                  first | exact ⟨rfl, _, _, _, _, _, rfl, (qRd_un (c := 33) (e := 33) hr42q (by omega) (by omega) (fun N => qtx_on_u (by omega) (by omega) (by omega)))⟩ | exact False.elim (by omega)
        · skip
          refine qr_aload_n 95 rfl rfl rfl ?_
          refine qr_dup 96 rfl rfl rfl ?_
          refine qr_cget4 hi 99 rfl rfl ?_
          refine qr_iconst 100 rfl rfl ?_
          refine qr_iadd 101 rfl rfl ?_
          refine qr_cput4 hi 104 rfl rfl ?_
          refine qr_aload_n 105 rfl rfl rfl ?_
          refine qr_iconst 106 rfl rfl ?_
          refine qr_iload_n 107 rfl rfl rfl ?_
          refine qr_iconst 108 rfl rfl ?_
          refine qr_iadd 109 rfl rfl ?_
          refine qr_ccall (as := [.int (qz 0), .int (qz (op + 1))]) (rest := []) hi 112 rfl rfl (Nat.le_of_ble_eq_true rfl) rfl rfl (ihp (by omega) _ rfl _ _ _ _ (by omega)) ?_
          rintro _ _ ⟨rfl, at44, sz45, nm46, sk47, cd48, rfl, hr49⟩
          simp only [Option.toList, List.cons_append, List.nil_append]
          have hr49q : qRd ln (fun N => qtx_E t ln N (r - 1) (at_ + 1)) (at_ + 1) sz nm cd at44 sz45 nm46 sk47 cd48 := hr49
          have hr49b := hr49q.1
          refine qr_aload_n 113 rfl rfl rfl ?_
          refine qr_bipush 115 rfl (by decide) rfl ?_
          refine qr_ccall (as := [.int (qz 41)]) (rest := []) hi 118 rfl rfl (Nat.le_of_ble_eq_true rfl) rfl rfl (spx_pass hi ht hl (by omega) (by decide)) ?_
          rintro _ _ ⟨rfl, at50, sk51, rfl, hp52⟩
          simp only [Option.toList, List.cons_append, List.nil_append]
          refine qr_goto 183 rfl rfl ?_
          refine qr_retV rfl rfl (Nat.zero_le _) (Nat.zero_le _) ?_
          first | exact ⟨rfl, _, _, _, _, _, rfl, (qRd_pc (T := t) hr49q (by omega) hp52 (fun N => qtx_on_p (by omega) (by omega)))⟩ | exact False.elim (by omega)
    · skip
      refine qr_ldcs 33 rfl rfl ?_
      refine qr_iload_n 34 rfl rfl rfl ?_
      refine qr_i2c 35 rfl rfl ?_
      rw [(qtx_b2 (c := (qtx_c t ln at_)) (by omega)).1]
      refine qr_callN 38 rfl rfl rfl (spx_ix (by omega)) ?_
      rintro _ _ ⟨rfl, b53, rfl, hb54⟩
      simp only [Option.toList, List.drop, List.cons_append, List.nil_append]
      have hb54n := qtx_is_nm (by omega) hb54
      have hb54m := qtx_nm_c (qtx_c t ln at_)
      refine qr_if_lt 82 41 rfl rfl rfl (by omega) (fun h55 => ?_) (fun h55 => ?_)
      · skip
        refine qr_iload_n 83 rfl rfl rfl ?_
        refine qr_bipush 85 rfl (by decide) rfl ?_
        refine qr_icmp_ge 121 88 rfl rfl rfl (by omega) (by omega) (fun h56 => ?_) (fun h56 => ?_)
        · skip
          refine qr_iload_n 122 rfl rfl rfl ?_
          refine qr_bipush 124 rfl (by decide) rfl ?_
          refine qr_icmp_ge 178 127 rfl rfl rfl (by omega) (by omega) (fun h57 => ?_) (fun h57 => ?_)
          · skip
            refine qr_aload_n 179 rfl rfl rfl ?_
            refine qr_iconst 180 rfl rfl ?_
            refine qr_cput7 hi (by omega) 183 rfl rfl ?_
            refine qr_retV rfl rfl (Nat.zero_le _) (Nat.zero_le _) ?_
            have hcn := qtx_nm_c (qtx_c t ln at_)
            first | exact ⟨rfl, _, _, _, _, _, rfl, (qRd_st cd (by omega) (by omega) (by omega) (fun N => (qtx_on_o (by omega)).trans (qtx_oo_b (by omega) (by omega))))⟩ | exact False.elim (by omega)
          · skip
            refine qr_iload_n 128 rfl rfl rfl ?_
            refine qr_bipush 130 rfl (by decide) rfl ?_
            refine qr_icmp_eq 139 133 rfl rfl rfl (by omega) (by omega) (fun h58 => ?_) (fun h58 => ?_)
            · skip
              refine qr_aload_n 140 rfl rfl rfl ?_
              refine qr_dup 141 rfl rfl rfl ?_
              refine qr_cget4 hi 144 rfl rfl ?_
              refine qr_iconst 145 rfl rfl ?_
              refine qr_iadd 146 rfl rfl ?_
              refine qr_cput4 hi 149 rfl rfl ?_
              refine qr_aload_n 150 rfl rfl rfl ?_
              refine qr_iload_n 151 rfl rfl rfl ?_
              refine qr_iconst 152 rfl rfl ?_
              refine qr_iadd 153 rfl rfl ?_
              refine qr_ccall (as := [.int (qz (op + 1))]) (rest := []) hi 156 rfl rfl (Nat.le_of_ble_eq_true rfl) rfl rfl (iho (by omega) _ rfl _ _ _ _ (by omega)) ?_
              rintro _ _ ⟨rfl, at59, sz60, nm61, sk62, cd63, rfl, hr64⟩
              simp only [Option.toList, List.cons_append, List.nil_append]
              have hr64q : qRd ln (fun N => qtx_on t ln N (r - 1) (at_ + 1)) (at_ + 1) sz nm cd at59 sz60 nm61 sk62 cd63 := hr64
              have hr64b := hr64q.1
              refine qr_aload_n 157 rfl rfl rfl ?_
              refine qr_iload_n 158 rfl rfl rfl ?_
              refine qr_bipush 160 rfl (by decide) rfl ?_
              refine qr_icmp_ne 168 163 rfl rfl rfl (by omega) (by omega) (fun h65 => ?_) (fun h65 => ?_)
              · skip
                refine qr_bipush 170 rfl (by decide) rfl ?_
                refine qr_iconst 171 rfl rfl ?_
                refine qr_ccall (as := [.int (qz 126), .int (qz 0)]) (rest := []) hi 174 rfl rfl (Nat.le_of_ble_eq_true rfl) rfl rfl (spx_emit hi (by omega) (by omega) (by omega)) ?_
                rintro _ _ ⟨rfl, rfl⟩
                simp only [Option.toList, List.cons_append, List.nil_append]
                refine qr_pop 175 rfl rfl rfl ?_
                refine qr_goto 183 rfl rfl ?_
                refine qr_retV rfl rfl (Nat.zero_le _) (Nat.zero_le _) ?_
                first | exact ⟨rfl, _, _, _, _, _, rfl, (qRd_un (c := 45) (e := 126) hr64q (by omega) (by omega) (fun N => qtx_on_u (by omega) (by omega) (by omega)))⟩ | exact False.elim (by omega)
              · skip
                refine qr_bipush 165 rfl (by decide) rfl ?_
                refine qr_goto 170 rfl rfl ?_
                refine qr_iconst 171 rfl rfl ?_
                refine qr_ccall (as := [.int (qz 33), .int (qz 0)]) (rest := []) hi 174 rfl rfl (Nat.le_of_ble_eq_true rfl) rfl rfl (spx_emit hi (by omega) (by omega) (by omega)) ?_
                rintro _ _ ⟨rfl, rfl⟩
                simp only [Option.toList, List.cons_append, List.nil_append]
                refine qr_pop 175 rfl rfl rfl ?_
                refine qr_goto 183 rfl rfl ?_
                refine qr_retV rfl rfl (Nat.zero_le _) (Nat.zero_le _) ?_
                first | exact ⟨rfl, _, _, _, _, _, rfl, (qRd_un (c := 33) (e := 33) hr64q (by omega) (by omega) (fun N => qtx_on_u (by omega) (by omega) (by omega)))⟩ | exact False.elim (by omega)
            · skip
              refine qr_iload_n 134 rfl rfl rfl ?_
              refine qr_bipush 136 rfl (by decide) rfl ?_
              refine qr_icmp_ne 178 139 rfl rfl rfl (by omega) (by omega) (fun h66 => ?_) (fun h66 => ?_)
              · skip
                refine qr_aload_n 179 rfl rfl rfl ?_
                refine qr_iconst 180 rfl rfl ?_
                refine qr_cput7 hi (by omega) 183 rfl rfl ?_
                refine qr_retV rfl rfl (Nat.zero_le _) (Nat.zero_le _) ?_
                have hcn := qtx_nm_c (qtx_c t ln at_)
                first | exact ⟨rfl, _, _, _, _, _, rfl, (qRd_st cd (by omega) (by omega) (by omega) (fun N => (qtx_on_o (by omega)).trans (qtx_oo_b (by omega) (by omega))))⟩ | exact False.elim (by omega)
              · skip
                refine qr_aload_n 140 rfl rfl rfl ?_
                refine qr_dup 141 rfl rfl rfl ?_
                refine qr_cget4 hi 144 rfl rfl ?_
                refine qr_iconst 145 rfl rfl ?_
                refine qr_iadd 146 rfl rfl ?_
                refine qr_cput4 hi 149 rfl rfl ?_
                refine qr_aload_n 150 rfl rfl rfl ?_
                refine qr_iload_n 151 rfl rfl rfl ?_
                refine qr_iconst 152 rfl rfl ?_
                refine qr_iadd 153 rfl rfl ?_
                refine qr_ccall (as := [.int (qz (op + 1))]) (rest := []) hi 156 rfl rfl (Nat.le_of_ble_eq_true rfl) rfl rfl (iho (by omega) _ rfl _ _ _ _ (by omega)) ?_
                rintro _ _ ⟨rfl, at67, sz68, nm69, sk70, cd71, rfl, hr72⟩
                simp only [Option.toList, List.cons_append, List.nil_append]
                have hr72q : qRd ln (fun N => qtx_on t ln N (r - 1) (at_ + 1)) (at_ + 1) sz nm cd at67 sz68 nm69 sk70 cd71 := hr72
                have hr72b := hr72q.1
                refine qr_aload_n 157 rfl rfl rfl ?_
                refine qr_iload_n 158 rfl rfl rfl ?_
                refine qr_bipush 160 rfl (by decide) rfl ?_
                refine qr_icmp_ne 168 163 rfl rfl rfl (by omega) (by omega) (fun h73 => ?_) (fun h73 => ?_)
                · skip
                  refine qr_bipush 170 rfl (by decide) rfl ?_
                  refine qr_iconst 171 rfl rfl ?_
                  refine qr_ccall (as := [.int (qz 126), .int (qz 0)]) (rest := []) hi 174 rfl rfl (Nat.le_of_ble_eq_true rfl) rfl rfl (spx_emit hi (by omega) (by omega) (by omega)) ?_
                  rintro _ _ ⟨rfl, rfl⟩
                  simp only [Option.toList, List.cons_append, List.nil_append]
                  refine qr_pop 175 rfl rfl rfl ?_
                  refine qr_goto 183 rfl rfl ?_
                  refine qr_retV rfl rfl (Nat.zero_le _) (Nat.zero_le _) ?_
                  first | exact ⟨rfl, _, _, _, _, _, rfl, (qRd_un (c := 45) (e := 126) hr72q (by omega) (by omega) (fun N => qtx_on_u (by omega) (by omega) (by omega)))⟩ | exact False.elim (by omega)
                · skip
                  refine qr_bipush 165 rfl (by decide) rfl ?_
                  refine qr_goto 170 rfl rfl ?_
                  refine qr_iconst 171 rfl rfl ?_
                  refine qr_ccall (as := [.int (qz 33), .int (qz 0)]) (rest := []) hi 174 rfl rfl (Nat.le_of_ble_eq_true rfl) rfl rfl (spx_emit hi (by omega) (by omega) (by omega)) ?_
                  rintro _ _ ⟨rfl, rfl⟩
                  simp only [Option.toList, List.cons_append, List.nil_append]
                  refine qr_pop 175 rfl rfl rfl ?_
                  refine qr_goto 183 rfl rfl ?_
                  refine qr_retV rfl rfl (Nat.zero_le _) (Nat.zero_le _) ?_
                  first | exact ⟨rfl, _, _, _, _, _, rfl, (qRd_un (c := 33) (e := 33) hr72q (by omega) (by omega) (fun N => qtx_on_u (by omega) (by omega) (by omega)))⟩ | exact False.elim (by omega)
        · skip
          refine qr_iload_n 89 rfl rfl rfl ?_
          refine qr_bipush 91 rfl (by decide) rfl ?_
          refine qr_icmp_ne 121 94 rfl rfl rfl (by omega) (by omega) (fun h74 => ?_) (fun h74 => ?_)
          · skip
            refine qr_iload_n 122 rfl rfl rfl ?_
            refine qr_bipush 124 rfl (by decide) rfl ?_
            refine qr_icmp_ge 178 127 rfl rfl rfl (by omega) (by omega) (fun h75 => ?_) (fun h75 => ?_)
            · skip
              refine qr_aload_n 179 rfl rfl rfl ?_
              refine qr_iconst 180 rfl rfl ?_
              refine qr_cput7 hi (by omega) 183 rfl rfl ?_
              refine qr_retV rfl rfl (Nat.zero_le _) (Nat.zero_le _) ?_
              have hcn := qtx_nm_c (qtx_c t ln at_)
              first | exact ⟨rfl, _, _, _, _, _, rfl, (qRd_st cd (by omega) (by omega) (by omega) (fun N => (qtx_on_o (by omega)).trans (qtx_oo_b (by omega) (by omega))))⟩ | exact False.elim (by omega)
            · skip
              refine qr_iload_n 128 rfl rfl rfl ?_
              refine qr_bipush 130 rfl (by decide) rfl ?_
              refine qr_icmp_eq 139 133 rfl rfl rfl (by omega) (by omega) (fun h76 => ?_) (fun h76 => ?_)
              · skip
                refine qr_aload_n 140 rfl rfl rfl ?_
                refine qr_dup 141 rfl rfl rfl ?_
                refine qr_cget4 hi 144 rfl rfl ?_
                refine qr_iconst 145 rfl rfl ?_
                refine qr_iadd 146 rfl rfl ?_
                refine qr_cput4 hi 149 rfl rfl ?_
                refine qr_aload_n 150 rfl rfl rfl ?_
                refine qr_iload_n 151 rfl rfl rfl ?_
                refine qr_iconst 152 rfl rfl ?_
                refine qr_iadd 153 rfl rfl ?_
                refine qr_ccall (as := [.int (qz (op + 1))]) (rest := []) hi 156 rfl rfl (Nat.le_of_ble_eq_true rfl) rfl rfl (iho (by omega) _ rfl _ _ _ _ (by omega)) ?_
                rintro _ _ ⟨rfl, at77, sz78, nm79, sk80, cd81, rfl, hr82⟩
                simp only [Option.toList, List.cons_append, List.nil_append]
                have hr82q : qRd ln (fun N => qtx_on t ln N (r - 1) (at_ + 1)) (at_ + 1) sz nm cd at77 sz78 nm79 sk80 cd81 := hr82
                have hr82b := hr82q.1
                refine qr_aload_n 157 rfl rfl rfl ?_
                refine qr_iload_n 158 rfl rfl rfl ?_
                refine qr_bipush 160 rfl (by decide) rfl ?_
                refine qr_icmp_ne 168 163 rfl rfl rfl (by omega) (by omega) (fun h83 => ?_) (fun h83 => ?_)
                · skip
                  refine qr_bipush 170 rfl (by decide) rfl ?_
                  refine qr_iconst 171 rfl rfl ?_
                  refine qr_ccall (as := [.int (qz 126), .int (qz 0)]) (rest := []) hi 174 rfl rfl (Nat.le_of_ble_eq_true rfl) rfl rfl (spx_emit hi (by omega) (by omega) (by omega)) ?_
                  rintro _ _ ⟨rfl, rfl⟩
                  simp only [Option.toList, List.cons_append, List.nil_append]
                  refine qr_pop 175 rfl rfl rfl ?_
                  refine qr_goto 183 rfl rfl ?_
                  refine qr_retV rfl rfl (Nat.zero_le _) (Nat.zero_le _) ?_
                  first | exact ⟨rfl, _, _, _, _, _, rfl, (qRd_un (c := 45) (e := 126) hr82q (by omega) (by omega) (fun N => qtx_on_u (by omega) (by omega) (by omega)))⟩ | exact False.elim (by omega)
                · skip
                  refine qr_bipush 165 rfl (by decide) rfl ?_
                  refine qr_goto 170 rfl rfl ?_
                  refine qr_iconst 171 rfl rfl ?_
                  refine qr_ccall (as := [.int (qz 33), .int (qz 0)]) (rest := []) hi 174 rfl rfl (Nat.le_of_ble_eq_true rfl) rfl rfl (spx_emit hi (by omega) (by omega) (by omega)) ?_
                  rintro _ _ ⟨rfl, rfl⟩
                  simp only [Option.toList, List.cons_append, List.nil_append]
                  refine qr_pop 175 rfl rfl rfl ?_
                  refine qr_goto 183 rfl rfl ?_
                  refine qr_retV rfl rfl (Nat.zero_le _) (Nat.zero_le _) ?_
                  first | exact ⟨rfl, _, _, _, _, _, rfl, (qRd_un (c := 33) (e := 33) hr82q (by omega) (by omega) (fun N => qtx_on_u (by omega) (by omega) (by omega)))⟩ | exact False.elim (by omega)
              · skip
                refine qr_iload_n 134 rfl rfl rfl ?_
                refine qr_bipush 136 rfl (by decide) rfl ?_
                refine qr_icmp_ne 178 139 rfl rfl rfl (by omega) (by omega) (fun h84 => ?_) (fun h84 => ?_)
                · skip
                  refine qr_aload_n 179 rfl rfl rfl ?_
                  refine qr_iconst 180 rfl rfl ?_
                  refine qr_cput7 hi (by omega) 183 rfl rfl ?_
                  refine qr_retV rfl rfl (Nat.zero_le _) (Nat.zero_le _) ?_
                  have hcn := qtx_nm_c (qtx_c t ln at_)
                  first | exact ⟨rfl, _, _, _, _, _, rfl, (qRd_st cd (by omega) (by omega) (by omega) (fun N => (qtx_on_o (by omega)).trans (qtx_oo_b (by omega) (by omega))))⟩ | exact False.elim (by omega)
                · skip
                  refine qr_aload_n 140 rfl rfl rfl ?_
                  refine qr_dup 141 rfl rfl rfl ?_
                  refine qr_cget4 hi 144 rfl rfl ?_
                  refine qr_iconst 145 rfl rfl ?_
                  refine qr_iadd 146 rfl rfl ?_
                  refine qr_cput4 hi 149 rfl rfl ?_
                  refine qr_aload_n 150 rfl rfl rfl ?_
                  refine qr_iload_n 151 rfl rfl rfl ?_
                  refine qr_iconst 152 rfl rfl ?_
                  refine qr_iadd 153 rfl rfl ?_
                  refine qr_ccall (as := [.int (qz (op + 1))]) (rest := []) hi 156 rfl rfl (Nat.le_of_ble_eq_true rfl) rfl rfl (iho (by omega) _ rfl _ _ _ _ (by omega)) ?_
                  rintro _ _ ⟨rfl, at85, sz86, nm87, sk88, cd89, rfl, hr90⟩
                  simp only [Option.toList, List.cons_append, List.nil_append]
                  have hr90q : qRd ln (fun N => qtx_on t ln N (r - 1) (at_ + 1)) (at_ + 1) sz nm cd at85 sz86 nm87 sk88 cd89 := hr90
                  have hr90b := hr90q.1
                  refine qr_aload_n 157 rfl rfl rfl ?_
                  refine qr_iload_n 158 rfl rfl rfl ?_
                  refine qr_bipush 160 rfl (by decide) rfl ?_
                  refine qr_icmp_ne 168 163 rfl rfl rfl (by omega) (by omega) (fun h91 => ?_) (fun h91 => ?_)
                  · skip
                    refine qr_bipush 170 rfl (by decide) rfl ?_
                    refine qr_iconst 171 rfl rfl ?_
                    refine qr_ccall (as := [.int (qz 126), .int (qz 0)]) (rest := []) hi 174 rfl rfl (Nat.le_of_ble_eq_true rfl) rfl rfl (spx_emit hi (by omega) (by omega) (by omega)) ?_
                    rintro _ _ ⟨rfl, rfl⟩
                    simp only [Option.toList, List.cons_append, List.nil_append]
                    refine qr_pop 175 rfl rfl rfl ?_
                    refine qr_goto 183 rfl rfl ?_
                    refine qr_retV rfl rfl (Nat.zero_le _) (Nat.zero_le _) ?_
                    first | exact ⟨rfl, _, _, _, _, _, rfl, (qRd_un (c := 45) (e := 126) hr90q (by omega) (by omega) (fun N => qtx_on_u (by omega) (by omega) (by omega)))⟩ | exact False.elim (by omega)
                  · skip
                    refine qr_bipush 165 rfl (by decide) rfl ?_
                    refine qr_goto 170 rfl rfl ?_
                    refine qr_iconst 171 rfl rfl ?_
                    refine qr_ccall (as := [.int (qz 33), .int (qz 0)]) (rest := []) hi 174 rfl rfl (Nat.le_of_ble_eq_true rfl) rfl rfl (spx_emit hi (by omega) (by omega) (by omega)) ?_
                    rintro _ _ ⟨rfl, rfl⟩
                    simp only [Option.toList, List.cons_append, List.nil_append]
                    refine qr_pop 175 rfl rfl rfl ?_
                    refine qr_goto 183 rfl rfl ?_
                    refine qr_retV rfl rfl (Nat.zero_le _) (Nat.zero_le _) ?_
                    first | exact ⟨rfl, _, _, _, _, _, rfl, (qRd_un (c := 33) (e := 33) hr90q (by omega) (by omega) (fun N => qtx_on_u (by omega) (by omega) (by omega)))⟩ | exact False.elim (by omega)
          · skip
            refine qr_aload_n 95 rfl rfl rfl ?_
            refine qr_dup 96 rfl rfl rfl ?_
            refine qr_cget4 hi 99 rfl rfl ?_
            refine qr_iconst 100 rfl rfl ?_
            refine qr_iadd 101 rfl rfl ?_
            refine qr_cput4 hi 104 rfl rfl ?_
            refine qr_aload_n 105 rfl rfl rfl ?_
            refine qr_iconst 106 rfl rfl ?_
            refine qr_iload_n 107 rfl rfl rfl ?_
            refine qr_iconst 108 rfl rfl ?_
            refine qr_iadd 109 rfl rfl ?_
            refine qr_ccall (as := [.int (qz 0), .int (qz (op + 1))]) (rest := []) hi 112 rfl rfl (Nat.le_of_ble_eq_true rfl) rfl rfl (ihp (by omega) _ rfl _ _ _ _ (by omega)) ?_
            rintro _ _ ⟨rfl, at92, sz93, nm94, sk95, cd96, rfl, hr97⟩
            simp only [Option.toList, List.cons_append, List.nil_append]
            have hr97q : qRd ln (fun N => qtx_E t ln N (r - 1) (at_ + 1)) (at_ + 1) sz nm cd at92 sz93 nm94 sk95 cd96 := hr97
            have hr97b := hr97q.1
            refine qr_aload_n 113 rfl rfl rfl ?_
            refine qr_bipush 115 rfl (by decide) rfl ?_
            refine qr_ccall (as := [.int (qz 41)]) (rest := []) hi 118 rfl rfl (Nat.le_of_ble_eq_true rfl) rfl rfl (spx_pass hi ht hl (by omega) (by decide)) ?_
            rintro _ _ ⟨rfl, at98, sk99, rfl, hp100⟩
            simp only [Option.toList, List.cons_append, List.nil_append]
            refine qr_goto 183 rfl rfl ?_
            refine qr_retV rfl rfl (Nat.zero_le _) (Nat.zero_le _) ?_
            first | exact ⟨rfl, _, _, _, _, _, rfl, (qRd_pc (T := t) hr97q (by omega) hp100 (fun N => qtx_on_p (by omega) (by omega)))⟩ | exact False.elim (by omega)
      · skip
        refine qr_aload_n 42 rfl rfl rfl ?_
        refine qr_dup 43 rfl rfl rfl ?_
        refine qr_cget4 hi 46 rfl rfl ?_
        refine qr_iconst 47 rfl rfl ?_
        refine qr_iadd 48 rfl rfl ?_
        refine qr_cput4 hi 51 rfl rfl ?_
        refine qr_ldcs 53 rfl rfl ?_
        refine qr_iload_n 54 rfl rfl rfl ?_
        refine qr_i2c 55 rfl rfl ?_
        rw [(qtx_b2 (c := (qtx_c t ln at_)) (by omega)).1]
        refine qr_callN 58 rfl rfl rfl (spx_ix (by omega)) ?_
        rintro _ _ ⟨rfl, b101, rfl, hb102⟩
        simp only [Option.toList, List.drop, List.cons_append, List.nil_append]
        have hb102n := qtx_is_nm (by omega) hb102
        have hb102m := qtx_nm_c (qtx_c t ln at_)
        refine qr_istore_n [(3, .int (qz b101)), (2, .int (qz (qtx_c t ln at_))), (0, .ref a), (1, .int (qz op))] 59 rfl (by decide) rfl rfl ?_
        refine qr_aload_n 60 rfl rfl rfl ?_
        refine qr_dup 61 rfl rfl rfl ?_
        refine qr_cget6 hi 64 rfl rfl ?_
        refine qr_iconst 65 rfl rfl ?_
        refine qr_iload_n 66 rfl rfl rfl ?_
        refine qr_ishl 67 rfl rfl ?_
        refine qr_ior 68 rfl rfl ?_
        refine qr_cput6 hi 71 rfl rfl ?_
        refine qr_aload_n 72 rfl rfl rfl ?_
        refine qr_bipush 74 rfl (by decide) rfl ?_
        refine qr_iload_n 75 rfl rfl rfl ?_
        refine qr_ccall (as := [.int (qz 97), .int (qz b101)]) (rest := []) hi 78 rfl rfl (Nat.le_of_ble_eq_true rfl) rfl rfl (spx_emit hi (by omega) (by omega) (by omega)) ?_
        rintro _ _ ⟨rfl, rfl⟩
        simp only [Option.toList, List.cons_append, List.nil_append]
        refine qr_pop 79 rfl rfl rfl ?_
        refine qr_goto 183 rfl rfl ?_
        refine qr_retV rfl rfl (Nat.zero_le _) (Nat.zero_le _) ?_
        have hat : at_ < ln := by have := qtx_c_c t ln at_; omega
        first | exact ⟨rfl, _, _, _, _, _, rfl, (qRd_nam cd (m := b101) (by omega) (by omega) (qz_or_r _ _) (by omega) (fun k h1 h2 => qbi_or1 (by omega) h1 (by omega)) (fun N => (qtx_on_o (by omega)).trans ((qtx_oo_n (by omega)).trans (by rw [← hb102n]))))⟩ | exact False.elim (by omega)
  · skip
    refine qr_aload_n 21 rfl rfl rfl ?_
    refine qr_ccall (as := []) (rest := []) hi 24 rfl rfl (Nat.le_of_ble_eq_true rfl) rfl rfl (spx_readNumber hi ht hb hl (by omega)) ?_
    rintro _ _ ⟨rfl, rfl⟩
    simp only [Option.toList, List.cons_append, List.nil_append]
    refine qr_goto 183 rfl rfl ?_
    refine qr_retV rfl rfl (Nat.zero_le _) (Nat.zero_le _) ?_
    have hnb := qtx_num_b (T := t) (n := ln) 4 0 at_ (by omega) (by omega)
    have hpp : ((0 : Int) + 1) * qtx_p 4 = 10000 := by decide
    first | exact ⟨rfl, _, _, _, _, _, rfl, (qRd_num cd (v := (qtx_num t ln 4 0 at_).1) (by have := qtx_num_gt (T := t) (n := ln) (a := at_) (by omega) (by omega); omega) (by omega) (by omega) (by omega) (fun N => (qtx_on_o (by omega)).trans (qtx_oo_d (by omega))))⟩ | exact False.elim (by omega)

theorem qtx_lp_x {T : Nat → Int} {n : Int} {sub : Int → qtx_3} {l at1 sk1 : Int} {k : Nat} {p : qtx_3} (h : p.2.1 = at1 ∧ p.2.2 = sk1) (hn : ¬ (sk1 = 0 ∧ qtx_lo (qtx_c T n at1) = l)) : qtx_lp T n sub l k p = p := qtx_lp_st (by rw [h.1, h.2]; exact hn)
theorem qtx_lp_n {T : Nat → Int} {n : Int} {sub : Int → qtx_3} {l at1 : Int} {k : Nat} {p : qtx_3} (h : p.2.1 = at1 ∧ p.2.2 = 0) (hl : qtx_lo (qtx_c T n at1) = l) : qtx_lp T n sub l (k + 1) p = qtx_lp T n sub l k (qtx_cm (qtx_c T n at1) p (sub (at1 + 1))) := by
  rw [qtx_lp_go (by rw [h.1, h.2]; exact ⟨rfl, hl⟩), h.1]
theorem qtx_em2 {b : Int} (hb : 0 ≤ b ∧ b < 65536) : qz_or 4128768 b = 63 * 65536 + b := by
  have h := qtx_em (a := 63) (by decide) hb
  rwa [show qz_shl 63 16 = 4128768 by decide +kernel] at h

set_option maxHeartbeats 4000000 in
set_option maxRecDepth 20000 in
theorem spx_part5 {L : Nat} {xs : Nat → Int} {vb : Bool} {d : Nat} {w : qm_W} {a : Nat} {ln at_ sz nm : Int} {t cd : Nat → Int} (hi : qc_in w a) (ht : ∀ j, -2147483648 ≤ t j ∧ t j ≤ 2147483647) (hb : ∀ j : Nat, (j : Int) < ln → 0 ≤ t j ∧ t j ≤ 255) (hl : 0 ≤ ln ∧ ln ≤ 120) (h0 : 0 ≤ at_ ∧ at_ ≤ ln ∧ 0 ≤ sz ∧ sz + ln - at_ ≤ 121 ∧ -2147483648 ≤ nm ∧ nm ≤ 2147483647) {lv op : Int} {r : Nat} (hv : lv = 5) (iho : ∀ (at1 sz1 nm1 : Int) (cd1 : Nat → Int), (0 ≤ at1 ∧ at1 ≤ ln ∧ 0 ≤ sz1 ∧ sz1 + ln - at1 ≤ 121 ∧ -2147483648 ≤ nm1 ∧ nm1 ≤ 2147483647) → qm_T (qe L xs vb) (d + 5) 21 [.ref a, .int (qz op)] (qc w a ln at1 sz1 nm1 0 t cd1) (qpx w a ln t (fun N b => qtx_on t ln N r b) at1 sz1 nm1 cd1)) : qm_T (qe L xs vb) (d + 6) 20 [.ref a, .int (qz lv), .int (qz op)] (qc w a ln at_ sz nm 0 t cd) (qpx w a ln t (fun N b => qtx_lv t ln (fun b => qtx_on t ln N r b) 0 b) at_ sz nm cd) := by
  refine qr_start (d := d + 5) qv_e20 (Nat.le_of_ble_eq_true rfl) ?_
  show qr_W (qe L xs vb) (d + 5) qx_e20 _ (0, [(0, .ref a), (1, .int (qz lv)), (2, .int (qz op))], [], qc w a ln at_ sz nm 0 t cd, 0, 0)
  refine qr_iload_n 1 rfl rfl rfl ?_
  refine qr_iconst 2 rfl rfl ?_
  refine qr_icmp_lt 11 5 rfl rfl rfl (by omega) (by omega) (fun h1 => ?_) (fun h1 => ?_)
  · skip
    exact False.elim (by omega)
  · skip
    refine qr_aload_n 6 rfl rfl rfl ?_
    refine qr_iload_n 7 rfl rfl rfl ?_
    refine qr_ccall (as := [.int (qz op)]) (rest := []) hi 10 rfl rfl (Nat.le_of_ble_eq_true rfl) rfl rfl (iho _ _ _ _ (by omega)) ?_
    rintro _ _ ⟨rfl, at2, sz3, nm4, sk5, cd6, rfl, hr7⟩
    simp only [Option.toList, List.cons_append, List.nil_append]
    have hr7q : qRd ln (fun N => qtx_on t ln N r at_) at_ sz nm cd at2 sz3 nm4 sk5 cd6 := hr7
    have hr7b := hr7q.1
    refine qr_retV rfl rfl (Nat.zero_le _) (Nat.zero_le _) ?_
    exact ⟨rfl, _, _, _, _, _, rfl, hr7q⟩

set_option maxHeartbeats 4000000 in
set_option maxRecDepth 20000 in
theorem spx_partS {L : Nat} {xs : Nat → Int} {vb : Bool} {d : Nat} {w : qm_W} {a : Nat} {ln at_ sz nm : Int} {t cd : Nat → Int} (hi : qc_in w a) (ht : ∀ j, -2147483648 ≤ t j ∧ t j ≤ 2147483647) (hb : ∀ j : Nat, (j : Int) < ln → 0 ≤ t j ∧ t j ≤ 255) (hl : 0 ≤ ln ∧ ln ≤ 120) (h0 : 0 ≤ at_ ∧ at_ ≤ ln ∧ 0 ≤ sz ∧ sz + ln - at_ ≤ 121 ∧ -2147483648 ≤ nm ∧ nm ≤ 2147483647) {lv op : Int} {r m : Nat} (hv : 0 ≤ lv ∧ lv < 5 ∧ (m : Int) = 4 - lv) (ihp : ∀ v : Int, v = lv + 1 → ∀ (at1 sz1 nm1 : Int) (cd1 : Nat → Int), (0 ≤ at1 ∧ at1 ≤ ln ∧ 0 ≤ sz1 ∧ sz1 + ln - at1 ≤ 121 ∧ -2147483648 ≤ nm1 ∧ nm1 ≤ 2147483647) → qm_T (qe L xs vb) (d + 5) 20 [.ref a, .int (qz v), .int (qz op)] (qc w a ln at1 sz1 nm1 0 t cd1) (qpx w a ln t (fun N b => qtx_lv t ln (fun b => qtx_on t ln N r b) m b) at1 sz1 nm1 cd1)) : qm_T (qe L xs vb) (d + 6) 20 [.ref a, .int (qz lv), .int (qz op)] (qc w a ln at_ sz nm 0 t cd) (qpx w a ln t (fun N b => qtx_lv t ln (fun b => qtx_on t ln N r b) (m + 1) b) at_ sz nm cd) := by
  refine qr_start (d := d + 5) qv_e20 (Nat.le_of_ble_eq_true rfl) ?_
  show qr_W (qe L xs vb) (d + 5) qx_e20 _ (0, [(0, .ref a), (1, .int (qz lv)), (2, .int (qz op))], [], qc w a ln at_ sz nm 0 t cd, 0, 0)
  have loop : ∀ (n : Nat) (i u at1 sz1 nm1 sk1 : Int) (cd1 : Nat → Int) (k : Nat) (P : (Nat → Int) → qtx_3), (0 ≤ i ∧ i ≤ 120 ∧ 120 - i < n) → ((lv = 2 ∧ i = 0 ∧ k = 1) ∨ (¬ lv = 2 ∧ (k : Int) = 120 - i)) → qRd ln P at_ sz nm cd at1 sz1 nm1 sk1 cd1 → (∀ N, qtx_lv t ln (fun b => qtx_on t ln N r b) (m + 1) at_ = qtx_lp t ln (fun b => qtx_lv t ln (fun b => qtx_on t ln N r b) m b) (4 - (m : Int)) k (P N)) → qr_W (qe L xs vb) (d + 5) qx_e20 (qpx w a ln t (fun N b => qtx_lv t ln (fun b => qtx_on t ln N r b) (m + 1) b) at_ sz nm cd) (21, [(3, .int (qz i)), (4, .int (qz u)), (0, .ref a), (1, .int (qz lv)), (2, .int (qz op))], [], qc w a ln at1 sz1 nm1 sk1 t cd1, 0, 0) := by
    intro n
    induction n with
    | zero => intro i u at1 sz1 nm1 sk1 cd1 k P h1 h2 hr0 hq; exact absurd h1 (by omega)
    | succ n ih =>
      intro i u at1 sz1 nm1 sk1 cd1 k P h1 hk2 hr0 hq
      have hr0b := hr0.1
      refine qr_iload_n 22 rfl rfl rfl ?_
      refine qr_bipush 24 rfl (by decide) rfl ?_
      refine qr_icmp_ge 91 27 rfl rfl rfl (by omega) (by omega) (fun h1 => ?_) (fun h1 => ?_)
      · skip
        refine qr_retV rfl rfl (Nat.zero_le _) (Nat.zero_le _) ?_
        first | exact ⟨rfl, _, _, _, _, _, rfl, qRd_cg hr0 (fun N => (hq N).trans (qtx_lp_x (hr0.2.1 N) (by omega)))⟩ | exact False.elim (by omega) | (have hk0 : k = 0 := (by omega); rw [hk0] at hq; exact ⟨rfl, _, _, _, _, _, rfl, qRd_cg hr0 (fun N => hq N)⟩)
      · skip
        refine qr_aload_n 28 rfl rfl rfl ?_
        refine qr_cget7 hi 31 rfl rfl ?_
        refine qr_if_ne 91 34 rfl rfl rfl (by omega) (fun h2 => ?_) (fun h2 => ?_)
        · skip
          refine qr_retV rfl rfl (Nat.zero_le _) (Nat.zero_le _) ?_
          first | exact ⟨rfl, _, _, _, _, _, rfl, qRd_cg hr0 (fun N => (hq N).trans (qtx_lp_x (hr0.2.1 N) (by omega)))⟩ | exact False.elim (by omega) | (have hk0 : k = 0 := (by omega); rw [hk0] at hq; exact ⟨rfl, _, _, _, _, _, rfl, qRd_cg hr0 (fun N => hq N)⟩)
        · skip
          have hz : sk1 = 0 := by omega
          subst hz
          obtain ⟨k1, rfl⟩ : ∃ k1, k = k1 + 1 := ⟨k - 1, by omega⟩
          refine qr_aload_n 35 rfl rfl rfl ?_
          refine qr_ccall (as := []) (rest := []) hi 38 rfl rfl (Nat.le_of_ble_eq_true rfl) rfl rfl (spx_next hi ht hl (by omega)) ?_
          rintro _ _ ⟨rfl, b3, rfl, hb4, rfl⟩
          simp only [Option.toList, List.cons_append, List.nil_append]
          have hc5r := qtx_c_b (a := at1) hb (by omega)
          have hc5c := qtx_c_c t ln at1
          refine qr_callN 41 rfl rfl rfl (spx_levelOf (by omega)) ?_
          rintro _ _ ⟨rfl, b6, rfl, rfl⟩
          simp only [Option.toList, List.drop, List.cons_append, List.nil_append]
          have hb7 := qtx_lo_c (qtx_c t ln at1)
          refine qr_iload_n 42 rfl rfl rfl ?_
          refine qr_icmp_ne 91 45 rfl rfl rfl (by omega) (by omega) (fun h8 => ?_) (fun h8 => ?_)
          · skip
            refine qr_retV rfl rfl (Nat.zero_le _) (Nat.zero_le _) ?_
            first | exact ⟨rfl, _, _, _, _, _, rfl, qRd_cg hr0 (fun N => (hq N).trans (qtx_lp_x (hr0.2.1 N) (by omega)))⟩ | exact False.elim (by omega) | (have hk0 : k = 0 := (by omega); rw [hk0] at hq; exact ⟨rfl, _, _, _, _, _, rfl, qRd_cg hr0 (fun N => hq N)⟩)
          · skip
            refine qr_aload_n 46 rfl rfl rfl ?_
            refine qr_ccall (as := []) (rest := []) hi 49 rfl rfl (Nat.le_of_ble_eq_true rfl) rfl rfl (spx_next hi ht hl (by omega)) ?_
            rintro _ _ ⟨rfl, b9, rfl, hb10, rfl⟩
            simp only [Option.toList, List.cons_append, List.nil_append]
            have hc11r := qtx_c_b (a := at1) hb (by omega)
            have hc11c := qtx_c_c t ln at1
            refine qr_istore [(4, .int (qz (qtx_c t ln at1))), (3, .int (qz i)), (0, .ref a), (1, .int (qz lv)), (2, .int (qz op))] 51 rfl (by decide) rfl rfl ?_
            refine qr_aload_n 52 rfl rfl rfl ?_
            refine qr_dup 53 rfl rfl rfl ?_
            refine qr_cget4 hi 56 rfl rfl ?_
            refine qr_iconst 57 rfl rfl ?_
            refine qr_iadd 58 rfl rfl ?_
            refine qr_cput4 hi 61 rfl rfl ?_
            refine qr_aload_n 62 rfl rfl rfl ?_
            refine qr_iload_n 63 rfl rfl rfl ?_
            refine qr_iconst 64 rfl rfl ?_
            refine qr_iadd 65 rfl rfl ?_
            refine qr_iload_n 66 rfl rfl rfl ?_
            refine qr_ccall (as := [.int (qz (lv + 1)), .int (qz op)]) (rest := []) hi 69 rfl rfl (Nat.le_of_ble_eq_true rfl) rfl rfl (ihp _ rfl _ _ _ _ (by omega)) ?_
            rintro _ _ ⟨rfl, at12, sz13, nm14, sk15, cd16, rfl, hr17⟩
            simp only [Option.toList, List.cons_append, List.nil_append]
            have hr17q : qRd ln (fun N => qtx_lv t ln (fun b => qtx_on t ln N r b) m (at1 + 1)) (at1 + 1) sz1 nm1 cd1 at12 sz13 nm14 sk15 cd16 := hr17
            have hr17b := hr17q.1
            refine qr_aload_n 70 rfl rfl rfl ?_
            refine qr_iload 72 rfl rfl rfl ?_
            refine qr_iconst 73 rfl rfl ?_
            refine qr_ccall (as := [.int (qz (qtx_c t ln at1)), .int (qz 0)]) (rest := []) hi 76 rfl rfl (Nat.le_of_ble_eq_true rfl) rfl rfl (spx_emit hi (by omega) (by omega) (by omega)) ?_
            rintro _ _ ⟨rfl, rfl⟩
            simp only [Option.toList, List.cons_append, List.nil_append]
            refine qr_pop 77 rfl rfl rfl ?_
            have hQ := qRd_bin (Q := fun N => qtx_cm (qtx_c t ln at1) (P N) (qtx_lv t ln (fun b => qtx_on t ln N r b) m (at1 + 1))) hr0 hr17q (by omega) (fun N => rfl)
            have hq2 : ∀ N, qtx_lv t ln (fun b => qtx_on t ln N r b) (m + 1) at_ = qtx_lp t ln (fun b => qtx_lv t ln (fun b => qtx_on t ln N r b) m b) (4 - (m : Int)) k1 (qtx_cm (qtx_c t ln at1) (P N) (qtx_lv t ln (fun b => qtx_on t ln N r b) m (at1 + 1))) := fun N => (hq N).trans (qtx_lp_n (hr0.2.1 N) (by omega))
            refine qr_iload_n 78 rfl rfl rfl ?_
            refine qr_iconst 79 rfl rfl ?_
            refine qr_icmp_ne 85 82 rfl rfl rfl (by omega) (by omega) (fun h18 => ?_) (fun h18 => ?_)
            · skip
              refine qr_iinc [(3, .int (qz (i + 1))), (4, .int (qz (qtx_c t ln at1))), (0, .ref a), (1, .int (qz lv)), (2, .int (qz op))] 88 rfl rfl (by decide) rfl rfl ?_
              refine qr_goto 21 rfl rfl ?_
              exact ih (i + 1) (qtx_c t ln at1) at12 (sz13 + 1) nm14 sk15 (qzu cd16 (sz13 : Int).toNat ((qtx_c t ln at1) * 65536 + 0)) k1 _ (by omega) (by omega) hQ hq2
            · skip
              refine qr_goto 91 rfl rfl ?_
              refine qr_retV rfl rfl (Nat.zero_le _) (Nat.zero_le _) ?_
              have hk0 : k1 = 0 := by omega
              subst hk0
              exact ⟨rfl, _, _, _, _, _, rfl, qRd_cg hQ (fun N => hq2 N)⟩
  refine qr_iload_n 1 rfl rfl rfl ?_
  refine qr_iconst 2 rfl rfl ?_
  refine qr_icmp_lt 11 5 rfl rfl rfl (by omega) (by omega) (fun h1 => ?_) (fun h1 => ?_)
  · skip
    refine qr_aload_n 12 rfl rfl rfl ?_
    refine qr_iload_n 13 rfl rfl rfl ?_
    refine qr_iconst 14 rfl rfl ?_
    refine qr_iadd 15 rfl rfl ?_
    refine qr_iload_n 16 rfl rfl rfl ?_
    refine qr_ccall (as := [.int (qz (lv + 1)), .int (qz op)]) (rest := []) hi 19 rfl rfl (Nat.le_of_ble_eq_true rfl) rfl rfl (ihp _ rfl _ _ _ _ (by omega)) ?_
    rintro _ _ ⟨rfl, at2, sz3, nm4, sk5, cd6, rfl, hr7⟩
    simp only [Option.toList, List.cons_append, List.nil_append]
    have hr7q : qRd ln (fun N => qtx_lv t ln (fun b => qtx_on t ln N r b) m at_) at_ sz nm cd at2 sz3 nm4 sk5 cd6 := hr7
    have hr7b := hr7q.1
    obtain ⟨k, hk⟩ : ∃ k : Nat, k = (if m = 2 then 1 else 120) := ⟨_, rfl⟩
    have hk2 : (lv = 2 ∧ (0 : Int) = 0 ∧ k = 1) ∨ (¬ lv = 2 ∧ (k : Int) = 120 - 0) := by rw [hk]; split <;> omega
    have hq : ∀ N, qtx_lv t ln (fun b => qtx_on t ln N r b) (m + 1) at_ = qtx_lp t ln (fun b => qtx_lv t ln (fun b => qtx_on t ln N r b) m b) (4 - (m : Int)) k (qtx_lv t ln (fun b => qtx_on t ln N r b) m at_) := fun N => by rw [hk]; rfl
    refine qr_iconst 20 rfl rfl ?_
    refine qr_istore_n [(3, .int (qz 0)), (0, .ref a), (1, .int (qz lv)), (2, .int (qz op))] 21 rfl (by decide) rfl rfl ?_
    refine qr_iload_n 22 rfl rfl rfl ?_
    refine qr_bipush 24 rfl (by decide) rfl ?_
    refine qr_icmp_ge 91 27 rfl rfl rfl (by omega) (by omega) (fun h8 => ?_) (fun h8 => ?_)
    · skip
      refine qr_retV rfl rfl (Nat.zero_le _) (Nat.zero_le _) ?_
      first | exact ⟨rfl, _, _, _, _, _, rfl, qRd_cg hr7q (fun N => (hq N).trans (qtx_lp_x (hr7q.2.1 N) (by omega)))⟩ | exact False.elim (by omega) | (have hk0 : k = 0 := (by omega); rw [hk0] at hq; exact ⟨rfl, _, _, _, _, _, rfl, qRd_cg hr7q (fun N => hq N)⟩)
    · skip
      refine qr_aload_n 28 rfl rfl rfl ?_
      refine qr_cget7 hi 31 rfl rfl ?_
      refine qr_if_ne 91 34 rfl rfl rfl (by omega) (fun h9 => ?_) (fun h9 => ?_)
      · skip
        refine qr_retV rfl rfl (Nat.zero_le _) (Nat.zero_le _) ?_
        first | exact ⟨rfl, _, _, _, _, _, rfl, qRd_cg hr7q (fun N => (hq N).trans (qtx_lp_x (hr7q.2.1 N) (by omega)))⟩ | exact False.elim (by omega) | (have hk0 : k = 0 := (by omega); rw [hk0] at hq; exact ⟨rfl, _, _, _, _, _, rfl, qRd_cg hr7q (fun N => hq N)⟩)
      · skip
        have hz : sk5 = 0 := by omega
        subst hz
        obtain ⟨k1, rfl⟩ : ∃ k1, k = k1 + 1 := ⟨k - 1, by omega⟩
        refine qr_aload_n 35 rfl rfl rfl ?_
        refine qr_ccall (as := []) (rest := []) hi 38 rfl rfl (Nat.le_of_ble_eq_true rfl) rfl rfl (spx_next hi ht hl (by omega)) ?_
        rintro _ _ ⟨rfl, b10, rfl, hb11, rfl⟩
        simp only [Option.toList, List.cons_append, List.nil_append]
        have hc12r := qtx_c_b (a := at2) hb (by omega)
        have hc12c := qtx_c_c t ln at2
        refine qr_callN 41 rfl rfl rfl (spx_levelOf (by omega)) ?_
        rintro _ _ ⟨rfl, b13, rfl, rfl⟩
        simp only [Option.toList, List.drop, List.cons_append, List.nil_append]
        have hb14 := qtx_lo_c (qtx_c t ln at2)
        refine qr_iload_n 42 rfl rfl rfl ?_
        refine qr_icmp_ne 91 45 rfl rfl rfl (by omega) (by omega) (fun h15 => ?_) (fun h15 => ?_)
        · skip
          refine qr_retV rfl rfl (Nat.zero_le _) (Nat.zero_le _) ?_
          first | exact ⟨rfl, _, _, _, _, _, rfl, qRd_cg hr7q (fun N => (hq N).trans (qtx_lp_x (hr7q.2.1 N) (by omega)))⟩ | exact False.elim (by omega) | (have hk0 : k = 0 := (by omega); rw [hk0] at hq; exact ⟨rfl, _, _, _, _, _, rfl, qRd_cg hr7q (fun N => hq N)⟩)
        · skip
          refine qr_aload_n 46 rfl rfl rfl ?_
          refine qr_ccall (as := []) (rest := []) hi 49 rfl rfl (Nat.le_of_ble_eq_true rfl) rfl rfl (spx_next hi ht hl (by omega)) ?_
          rintro _ _ ⟨rfl, b16, rfl, hb17, rfl⟩
          simp only [Option.toList, List.cons_append, List.nil_append]
          have hc18r := qtx_c_b (a := at2) hb (by omega)
          have hc18c := qtx_c_c t ln at2
          refine qr_istore [(4, .int (qz (qtx_c t ln at2))), (3, .int (qz 0)), (0, .ref a), (1, .int (qz lv)), (2, .int (qz op))] 51 rfl (by decide) rfl rfl ?_
          refine qr_aload_n 52 rfl rfl rfl ?_
          refine qr_dup 53 rfl rfl rfl ?_
          refine qr_cget4 hi 56 rfl rfl ?_
          refine qr_iconst 57 rfl rfl ?_
          refine qr_iadd 58 rfl rfl ?_
          refine qr_cput4 hi 61 rfl rfl ?_
          refine qr_aload_n 62 rfl rfl rfl ?_
          refine qr_iload_n 63 rfl rfl rfl ?_
          refine qr_iconst 64 rfl rfl ?_
          refine qr_iadd 65 rfl rfl ?_
          refine qr_iload_n 66 rfl rfl rfl ?_
          refine qr_ccall (as := [.int (qz (lv + 1)), .int (qz op)]) (rest := []) hi 69 rfl rfl (Nat.le_of_ble_eq_true rfl) rfl rfl (ihp _ rfl _ _ _ _ (by omega)) ?_
          rintro _ _ ⟨rfl, at19, sz20, nm21, sk22, cd23, rfl, hr24⟩
          simp only [Option.toList, List.cons_append, List.nil_append]
          have hr24q : qRd ln (fun N => qtx_lv t ln (fun b => qtx_on t ln N r b) m (at2 + 1)) (at2 + 1) sz3 nm4 cd6 at19 sz20 nm21 sk22 cd23 := hr24
          have hr24b := hr24q.1
          refine qr_aload_n 70 rfl rfl rfl ?_
          refine qr_iload 72 rfl rfl rfl ?_
          refine qr_iconst 73 rfl rfl ?_
          refine qr_ccall (as := [.int (qz (qtx_c t ln at2)), .int (qz 0)]) (rest := []) hi 76 rfl rfl (Nat.le_of_ble_eq_true rfl) rfl rfl (spx_emit hi (by omega) (by omega) (by omega)) ?_
          rintro _ _ ⟨rfl, rfl⟩
          simp only [Option.toList, List.cons_append, List.nil_append]
          refine qr_pop 77 rfl rfl rfl ?_
          have hQ := qRd_bin (Q := fun N => qtx_cm (qtx_c t ln at2) ((fun N => qtx_lv t ln (fun b => qtx_on t ln N r b) m at_) N) (qtx_lv t ln (fun b => qtx_on t ln N r b) m (at2 + 1))) hr7q hr24q (by omega) (fun N => rfl)
          have hq2 : ∀ N, qtx_lv t ln (fun b => qtx_on t ln N r b) (m + 1) at_ = qtx_lp t ln (fun b => qtx_lv t ln (fun b => qtx_on t ln N r b) m b) (4 - (m : Int)) k1 (qtx_cm (qtx_c t ln at2) ((fun N => qtx_lv t ln (fun b => qtx_on t ln N r b) m at_) N) (qtx_lv t ln (fun b => qtx_on t ln N r b) m (at2 + 1))) := fun N => (hq N).trans (qtx_lp_n (hr7q.2.1 N) (by omega))
          refine qr_iload_n 78 rfl rfl rfl ?_
          refine qr_iconst 79 rfl rfl ?_
          refine qr_icmp_ne 85 82 rfl rfl rfl (by omega) (by omega) (fun h25 => ?_) (fun h25 => ?_)
          · skip
            refine qr_iinc [(3, .int (qz (0 + 1))), (4, .int (qz (qtx_c t ln at2))), (0, .ref a), (1, .int (qz lv)), (2, .int (qz op))] 88 rfl rfl (by decide) rfl rfl ?_
            refine qr_goto 21 rfl rfl ?_
            exact loop 121 (0 + 1) (qtx_c t ln at2) at19 (sz20 + 1) nm21 sk22 (qzu cd23 (sz20 : Int).toNat ((qtx_c t ln at2) * 65536 + 0)) k1 _ (by omega) (by omega) hQ hq2
          · skip
            refine qr_goto 91 rfl rfl ?_
            refine qr_retV rfl rfl (Nat.zero_le _) (Nat.zero_le _) ?_
            have hk0 : k1 = 0 := by omega
            subst hk0
            exact ⟨rfl, _, _, _, _, _, rfl, qRd_cg hQ (fun N => hq2 N)⟩
  · skip
    exact False.elim (by omega)

/-- operands and parts, by their measure -/
theorem spx_both {L : Nat} {xs : Nat → Int} {vb : Bool} {d : Nat} (mm : Nat) :
    (∀ (w : qm_W) (a : Nat) (ln at_ sz nm : Int) (t cd : Nat → Int) (op : Int) (r : Nat), qc_in w a → (∀ j, -2147483648 ≤ t j ∧ t j ≤ 2147483647) → (∀ j : Nat, (j : Int) < ln → 0 ≤ t j ∧ t j ≤ 255) → (0 ≤ ln ∧ ln ≤ 120) → (0 ≤ at_ ∧ at_ ≤ ln ∧ 0 ≤ sz ∧ sz + ln - at_ ≤ 121 ∧ -2147483648 ≤ nm ∧ nm ≤ 2147483647) → (0 ≤ op ∧ op ≤ 6 ∧ (r : Int) = 6 - op ∧ (6 - op) * 7 < mm) → qm_T (qe L xs vb) (d + mm + 5) 21 [.ref a, .int (qz op)] (qc w a ln at_ sz nm 0 t cd) (qpx w a ln t (fun N b => qtx_on t ln N r b) at_ sz nm cd)) ∧
    (∀ (w : qm_W) (a : Nat) (ln at_ sz nm : Int) (t cd : Nat → Int) (lv op : Int) (r m : Nat), qc_in w a → (∀ j, -2147483648 ≤ t j ∧ t j ≤ 2147483647) → (∀ j : Nat, (j : Int) < ln → 0 ≤ t j ∧ t j ≤ 255) → (0 ≤ ln ∧ ln ≤ 120) → (0 ≤ at_ ∧ at_ ≤ ln ∧ 0 ≤ sz ∧ sz + ln - at_ ≤ 121 ∧ -2147483648 ≤ nm ∧ nm ≤ 2147483647) → (0 ≤ op ∧ op ≤ 6 ∧ 0 ≤ lv ∧ lv ≤ 5 ∧ (m : Int) = 5 - lv ∧ (r : Int) = 6 - op ∧ (6 - op) * 7 + 6 - lv < mm) → qm_T (qe L xs vb) (d + mm + 5) 20 [.ref a, .int (qz lv), .int (qz op)] (qc w a ln at_ sz nm 0 t cd) (qpx w a ln t (fun N b => qtx_lv t ln (fun b => qtx_on t ln N r b) m b) at_ sz nm cd)) := by
  induction mm with
  | zero => exact ⟨fun w a ln at_ sz nm t cd op r _ _ _ _ _ h => absurd h (by omega), fun w a ln at_ sz nm t cd lv op r m _ _ _ _ _ h => absurd h (by omega)⟩
  | succ mm ih =>
    obtain ⟨ihO, ihP⟩ := ih
    have e : d + (mm + 1) + 5 = d + mm + 6 := by omega
    rw [e]
    constructor
    · intro w a ln at_ sz nm t cd op r hi ht hb hl h0 hm
      refine spx_opS (d := d + mm) hi ht hb hl h0 ⟨by omega, by omega, by omega⟩ ?_ ?_
      · intro h v hv at1 sz1 nm1 cd1 hb1
        exact ihO w a ln at1 sz1 nm1 t cd1 v (r - 1) hi ht hb hl hb1 (by omega)
      · intro h v hv at1 sz1 nm1 cd1 hb1
        exact ihP w a ln at1 sz1 nm1 t cd1 0 v (r - 1) 5 hi ht hb hl hb1 (by omega)
    · intro w a ln at_ sz nm t cd lv op r m hi ht hb hl h0 hm
      by_cases h5 : lv = 5
      · have hm0 : m = 0 := by omega
        subst hm0
        refine spx_part5 (d := d + mm) hi ht hb hl h0 h5 ?_
        intro at1 sz1 nm1 cd1 hb1
        exact ihO w a ln at1 sz1 nm1 t cd1 op r hi ht hb hl hb1 (by omega)
      · obtain ⟨m, rfl⟩ : ∃ m', m = m' + 1 := ⟨m - 1, by omega⟩
        refine spx_partS (d := d + mm) hi ht hb hl h0 ⟨by omega, by omega, by omega⟩ ?_
        intro v hv at1 sz1 nm1 cd1 hb1
        exact ihP w a ln at1 sz1 nm1 t cd1 v op r m hi ht hb hl hb1 (by omega)

theorem spx_part0 {L : Nat} {xs : Nat → Int} {vb : Bool} {d : Nat} {w : qm_W} {a : Nat} {ln at_ sz nm : Int} {t cd : Nat → Int} (hi : qc_in w a) (ht : ∀ j, -2147483648 ≤ t j ∧ t j ≤ 2147483647) (hb : ∀ j : Nat, (j : Int) < ln → 0 ≤ t j ∧ t j ≤ 255) (hl : 0 ≤ ln ∧ ln ≤ 120) (h0 : 0 ≤ at_ ∧ at_ ≤ ln ∧ 0 ≤ sz ∧ sz + ln - at_ ≤ 121 ∧ -2147483648 ≤ nm ∧ nm ≤ 2147483647) : qm_T (qe L xs vb) (d + 54) 20 [.ref a, .int (qz 0), .int (qz 0)] (qc w a ln at_ sz nm 0 t cd) (qpx w a ln t (fun N b => qtx_E t ln N 6 b) at_ sz nm cd) :=
  (spx_both (d := d) 49).2 w a ln at_ sz nm t cd 0 0 6 5 hi ht hb hl h0 (by omega)

set_option maxHeartbeats 4000000 in
set_option maxRecDepth 20000 in
theorem spx_line {L : Nat} {xs : Nat → Int} {vb : Bool} {d : Nat} {w : qm_W} {a : Nat} {ln at_ sz nm : Int} {t cd : Nat → Int} (hi : qc_in w a) (ht : ∀ j, -2147483648 ≤ t j ∧ t j ≤ 2147483647) (hb : ∀ j : Nat, (j : Int) < ln → 0 ≤ t j ∧ t j ≤ 255) (hl : 0 ≤ ln ∧ ln ≤ 120) (h0 : 0 ≤ at_ ∧ at_ ≤ ln ∧ 0 ≤ sz ∧ sz + ln - at_ ≤ 120 ∧ -2147483648 ≤ nm ∧ nm ≤ 2147483647) : qm_T (qe L xs vb) (d + 55) 19 [.ref a] (qc w a ln at_ sz nm 0 t cd) (fun r w' => r = none ∧ ∃ (at2 sz2 nm2 sk2 : Int) (cd2 : Nat → Int), w' = qc w a ln at2 sz2 nm2 sk2 t cd2 ∧ qRl ln (fun N => qtx_ln t ln (qtx_E t ln N 6) at_) at_ sz nm cd at2 sz2 nm2 sk2 cd2) := by
  refine qr_start (d := d + 54) qv_e19 (Nat.le_of_ble_eq_true rfl) ?_
  show qr_W (qe L xs vb) (d + 54) qx_e19 _ (0, [(0, .ref a)], [], qc w a ln at_ sz nm 0 t cd, 0, 0)
  refine qr_aload_n 1 rfl rfl rfl ?_
  refine qr_iconst 2 rfl rfl ?_
  refine qr_iconst 3 rfl rfl ?_
  refine qr_ccall (as := [.int (qz 0), .int (qz 0)]) (rest := []) hi 6 rfl rfl (Nat.le_of_ble_eq_true rfl) rfl rfl (spx_part0 hi ht hb hl (by omega)) ?_
  rintro _ _ ⟨rfl, at1, sz2, nm3, sk4, cd5, rfl, hr6⟩
  simp only [Option.toList, List.cons_append, List.nil_append]
  have hr6q : qRd ln (fun N => qtx_E t ln N 6 at_) at_ sz nm cd at1 sz2 nm3 sk4 cd5 := hr6
  have hr6b := hr6q.1
  refine qr_aload_n 7 rfl rfl rfl ?_
  refine qr_cget7 hi 10 rfl rfl ?_
  refine qr_if_ne 22 13 rfl rfl rfl (by omega) (fun h7 => ?_) (fun h7 => ?_)
  · skip
    refine qr_aload_n 23 rfl rfl rfl ?_
    refine qr_bipush 25 rfl (by decide) rfl ?_
    refine qr_iconst 26 rfl rfl ?_
    refine qr_ccall (as := [.int (qz 59), .int (qz 0)]) (rest := []) hi 29 rfl rfl (Nat.le_of_ble_eq_true rfl) rfl rfl (spx_emit hi (by omega) (by omega) (by omega)) ?_
    rintro _ _ ⟨rfl, rfl⟩
    simp only [Option.toList, List.cons_append, List.nil_append]
    refine qr_pop 30 rfl rfl rfl ?_
    refine qr_retV rfl rfl (Nat.zero_le _) (Nat.zero_le _) ?_
    exact ⟨rfl, _, _, _, _, _, rfl, qRl_pl (T := t) (E := fun N => qtx_E t ln N 6) hl.2 hr6q (by omega)⟩
  · skip
    refine qr_aload_n 14 rfl rfl rfl ?_
    refine qr_ccall (as := []) (rest := []) hi 17 rfl rfl (Nat.le_of_ble_eq_true rfl) rfl rfl (spx_next hi ht hl (by omega)) ?_
    rintro _ _ ⟨rfl, b8, rfl, hb9, rfl⟩
    simp only [Option.toList, List.cons_append, List.nil_append]
    have hc10r := qtx_c_b (a := at1) hb (by omega)
    have hc10c := qtx_c_c t ln at1
    refine qr_bipush 19 rfl (by decide) rfl ?_
    refine qr_icmp_eq 31 22 rfl rfl rfl (by omega) (by omega) (fun h11 => ?_) (fun h11 => ?_)
    · skip
      have hz : sk4 = 0 := by omega
      subst hz
      refine qr_aload_n 32 rfl rfl rfl ?_
      refine qr_dup 33 rfl rfl rfl ?_
      refine qr_cget4 hi 36 rfl rfl ?_
      refine qr_iconst 37 rfl rfl ?_
      refine qr_iadd 38 rfl rfl ?_
      refine qr_cput4 hi 41 rfl rfl ?_
      refine qr_aload_n 42 rfl rfl rfl ?_
      refine qr_bipush 44 rfl (by decide) rfl ?_
      refine qr_iconst 45 rfl rfl ?_
      refine qr_ccall (as := [.int (qz 63), .int (qz 0)]) (rest := []) hi 48 rfl rfl (Nat.le_of_ble_eq_true rfl) rfl rfl (spx_emit hi (by omega) (by omega) (by omega)) ?_
      rintro _ _ ⟨rfl, rfl⟩
      simp only [Option.toList, List.cons_append, List.nil_append]
      refine qr_istore_n [(1, .int (qz sz2)), (0, .ref a)] 49 rfl (by decide) rfl rfl ?_
      refine qr_aload_n 50 rfl rfl rfl ?_
      refine qr_iconst 51 rfl rfl ?_
      refine qr_iconst 52 rfl rfl ?_
      refine qr_ccall (as := [.int (qz 0), .int (qz 0)]) (rest := []) hi 55 rfl rfl (Nat.le_of_ble_eq_true rfl) rfl rfl (spx_part0 hi ht hb hl (by omega)) ?_
      rintro _ _ ⟨rfl, at12, sz13, nm14, sk15, cd16, rfl, hr17⟩
      simp only [Option.toList, List.cons_append, List.nil_append]
      have hr17q : qRd ln (fun N => qtx_E t ln N 6 (at1 + 1)) (at1 + 1) (sz2 + 1) nm3 (qzu cd5 (sz2 : Int).toNat (63 * 65536 + 0)) at12 sz13 nm14 sk15 cd16 := hr17
      have hr17b := hr17q.1
      refine qr_aload_n 56 rfl rfl rfl ?_
      refine qr_bipush 58 rfl (by decide) rfl ?_
      refine qr_iconst 59 rfl rfl ?_
      refine qr_ccall (as := [.int (qz 59), .int (qz 0)]) (rest := []) hi 62 rfl rfl (Nat.le_of_ble_eq_true rfl) rfl rfl (spx_emit hi (by omega) (by omega) (by omega)) ?_
      rintro _ _ ⟨rfl, rfl⟩
      simp only [Option.toList, List.cons_append, List.nil_append]
      refine qr_pop 63 rfl rfl rfl ?_
      refine qr_aload_n 64 rfl rfl rfl ?_
      refine qr_cget1 hi 67 rfl rfl ?_
      refine qr_iload_n 68 rfl rfl rfl ?_
      refine qr_ldc 4128768 70 rfl (by decide) rfl ?_
      refine qr_aload_n 71 rfl rfl rfl ?_
      refine qr_cget5 hi 74 rfl rfl ?_
      refine qr_ior 75 rfl rfl ?_
      refine qy_v (63 * 65536 + (sz13 + 1)) (qtx_em2 (by omega)) ?_
      refine qr_ccstore hi 76 rfl (by omega) rfl ?_
      refine qr_retV rfl rfl (Nat.zero_le _) (Nat.zero_le _) ?_
      exact ⟨rfl, _, _, _, _, _, rfl, qRl_if (T := t) (E := fun N => qtx_E t ln N 6) hl.2 (by omega) hr6q (by omega) hr17q⟩
    · skip
      refine qr_aload_n 23 rfl rfl rfl ?_
      refine qr_bipush 25 rfl (by decide) rfl ?_
      refine qr_iconst 26 rfl rfl ?_
      refine qr_ccall (as := [.int (qz 59), .int (qz 0)]) (rest := []) hi 29 rfl rfl (Nat.le_of_ble_eq_true rfl) rfl rfl (spx_emit hi (by omega) (by omega) (by omega)) ?_
      rintro _ _ ⟨rfl, rfl⟩
      simp only [Option.toList, List.cons_append, List.nil_append]
      refine qr_pop 30 rfl rfl rfl ?_
      refine qr_retV rfl rfl (Nat.zero_le _) (Nat.zero_le _) ?_
      exact ⟨rfl, _, _, _, _, _, rfl, qRl_pl (T := t) (E := fun N => qtx_E t ln N 6) hl.2 hr6q (by omega)⟩

set_option maxHeartbeats 4000000 in
set_option maxRecDepth 20000 in
theorem spx_lines {L : Nat} {xs : Nat → Int} {vb : Bool} {d : Nat} {w : qm_W} {a : Nat} {ln at_ sz nm sk : Int} {t cd : Nat → Int} (hi : qc_in w a) (ht : ∀ j, -2147483648 ≤ t j ∧ t j ≤ 2147483647) (hb : ∀ j : Nat, (j : Int) < ln → 0 ≤ t j ∧ t j ≤ 255) (hl : 0 ≤ ln ∧ ln ≤ 120) : qm_T (qe L xs vb) (d + 56) 18 [.ref a] (qc w a ln at_ sz nm sk t cd) (fun r w' => ∃ (v at2 sz2 nm2 sk2 : Int) (cd2 : Nat → Int), r = some (.int (qz v)) ∧ w' = qc w a ln at2 sz2 nm2 sk2 t cd2 ∧ (0 ≤ at2 ∧ at2 ≤ ln ∧ 0 ≤ sz2 ∧ sz2 ≤ 122 ∧ -2147483648 ≤ nm2 ∧ nm2 ≤ 2147483647 ∧ (sk2 = 0 ∨ sk2 = 1) ∧ -1 ≤ v ∧ v ≤ 120) ∧ qRt ln t v sz2 nm2 cd2) := by
  refine qr_start (d := d + 55) qv_e18 (Nat.le_of_ble_eq_true rfl) ?_
  show qr_W (qe L xs vb) (d + 55) qx_e18 _ (0, [(0, .ref a)], [], qc w a ln at_ sz nm sk t cd, 0, 0)
  have loop : ∀ (n : Nat) (i at1 sz1 nm1 : Int) (cd1 : Nat → Int), (i + n = 121 ∧ 0 ≤ i ∧ i ≤ at1) → (-2147483648 ≤ nm1 ∧ nm1 ≤ 2147483647) → qRs ln t n at1 sz1 nm1 cd1 → qr_W (qe L xs vb) (d + 55) qx_e18 (fun r w' => ∃ (v at2 sz2 nm2 sk2 : Int) (cd2 : Nat → Int), r = some (.int (qz v)) ∧ w' = qc w a ln at2 sz2 nm2 sk2 t cd2 ∧ (0 ≤ at2 ∧ at2 ≤ ln ∧ 0 ≤ sz2 ∧ sz2 ≤ 122 ∧ -2147483648 ≤ nm2 ∧ nm2 ≤ 2147483647 ∧ (sk2 = 0 ∨ sk2 = 1) ∧ -1 ≤ v ∧ v ≤ 120) ∧ qRt ln t v sz2 nm2 cd2) (22, [(1, .int (qz i)), (0, .ref a)], [], qc w a ln at1 sz1 nm1 0 t cd1, 0, 0) := by
    intro n
    induction n with
    | zero => intro i at1 sz1 nm1 cd1 h1 h2 hs; have hsb := hs.1; exact False.elim (by omega)
    | succ n ih =>
      intro i at1 sz1 nm1 cd1 h1 h2 hs
      have hsb := hs.1
      refine qr_iload_n 23 rfl rfl rfl ?_
      refine qr_bipush 25 rfl (by decide) rfl ?_
      refine qr_icmp_gt 72 28 rfl rfl rfl (by omega) (by omega) (fun h1 => ?_) (fun h1 => ?_)
      · skip
        refine qr_aload_n 73 rfl rfl rfl ?_
        refine qr_cget7 hi 76 rfl rfl ?_
        refine qr_if_eq 86 79 rfl rfl rfl (by omega) (fun _ => ?_) (fun h => False.elim (by omega))
        refine qr_iconst 87 rfl rfl ?_
        refine qr_retI rfl rfl (Nat.zero_le _) (Nat.zero_le _) ?_
        exact False.elim (by omega)
      · skip
        refine qr_aload_n 29 rfl rfl rfl ?_
        refine qr_cget7 hi 32 rfl rfl ?_
        refine qr_if_ne 72 35 rfl rfl rfl (by omega) (fun h => False.elim (by omega)) (fun _ => ?_)
        refine qr_aload_n 36 rfl rfl rfl ?_
        refine qr_ccall (as := []) (rest := []) hi 39 rfl rfl (Nat.le_of_ble_eq_true rfl) rfl rfl (spx_line hi ht hb hl (by omega)) ?_
        rintro _ _ ⟨rfl, at2, sz3, nm4, sk5, cd6, rfl, hr7⟩
        simp only [Option.toList, List.cons_append, List.nil_append]
        have hr7q : qRl ln (fun N => qtx_ln t ln (qtx_E t ln N 6) at1) at1 sz1 nm1 cd1 at2 sz3 nm4 sk5 cd6 := hr7
        have hr7b := hr7q.1
        refine qr_aload_n 40 rfl rfl rfl ?_
        refine qr_cget7 hi 43 rfl rfl ?_
        refine qr_if_ne 72 46 rfl rfl rfl (by omega) (fun h8 => ?_) (fun h8 => ?_)
        · skip
          refine qr_aload_n 73 rfl rfl rfl ?_
          refine qr_cget7 hi 76 rfl rfl ?_
          refine qr_if_eq 86 79 rfl rfl rfl (by omega) (fun h9 => ?_) (fun h9 => ?_)
          · skip
            refine qr_iconst 87 rfl rfl ?_
            refine qr_retI rfl rfl (Nat.zero_le _) (Nat.zero_le _) ?_
            first | exact False.elim (by omega) | (have hz : sk5 = 0 := (by omega); rw [hz] at hr7q; exact ⟨_, _, _, _, _, _, rfl, rfl, by omega, qRs_end hs hr7q (by omega)⟩)
          · skip
            refine qr_aload_n 80 rfl rfl rfl ?_
            refine qr_cget4 hi 83 rfl rfl ?_
            refine qr_goto 87 rfl rfl ?_
            refine qr_retI rfl rfl (Nat.zero_le _) (Nat.zero_le _) ?_
            first | exact ⟨_, _, _, _, _, _, rfl, rfl, by omega, qRs_bad hs hr7q (by omega) _ _ _⟩ | exact False.elim (by omega)
        · skip
          refine qr_aload_n 47 rfl rfl rfl ?_
          refine qr_cget4 hi 50 rfl rfl ?_
          refine qr_aload_n 51 rfl rfl rfl ?_
          refine qr_cget3 hi 54 rfl rfl ?_
          refine qr_icmp_lt 60 57 rfl rfl rfl (by omega) (by omega) (fun h10 => ?_) (fun h10 => ?_)
          · skip
            refine qr_aload_n 61 rfl rfl rfl ?_
            refine qr_bipush 63 rfl (by decide) rfl ?_
            refine qr_ccall (as := [.int (qz 59)]) (rest := []) hi 66 rfl rfl (Nat.le_of_ble_eq_true rfl) rfl rfl (spx_pass hi ht hl (by omega) (by decide)) ?_
            rintro _ _ ⟨rfl, at11, sk12, rfl, hp13⟩
            simp only [Option.toList, List.cons_append, List.nil_append]
            rcases hp13 with ⟨hpa, hpb, rfl, rfl⟩ | ⟨hpn, rfl, rfl⟩
            · skip
              subst hpa
              refine qr_iinc [(1, .int (qz (i + 1))), (0, .ref a)] 69 rfl rfl (by decide) rfl rfl ?_
              refine qr_goto 22 rfl rfl ?_
              exact ih (i + 1) (at2 + 1) sz3 nm4 cd6 (by omega) (by omega) (qRs_go hs hr7q hpb)
            · skip
              refine qr_iinc [(1, .int (qz (i + 1))), (0, .ref a)] 69 rfl rfl (by decide) rfl rfl ?_
              refine qr_goto 22 rfl rfl ?_
              refine qr_iload_n 23 rfl rfl rfl ?_
              refine qr_bipush 25 rfl (by decide) rfl ?_
              refine qr_icmp_gt 72 28 rfl rfl rfl (by omega) (by omega) (fun h14 => ?_) (fun h14 => ?_)
              · skip
                refine qr_aload_n 73 rfl rfl rfl ?_
                refine qr_cget7 hi 76 rfl rfl ?_
                refine qr_if_eq 86 79 rfl rfl rfl (by omega) (fun h => False.elim (by omega)) (fun _ => ?_)
                refine qr_aload_n 80 rfl rfl rfl ?_
                refine qr_cget4 hi 83 rfl rfl ?_
                refine qr_goto 87 rfl rfl ?_
                refine qr_retI rfl rfl (Nat.zero_le _) (Nat.zero_le _) ?_
                first | exact ⟨_, _, _, _, _, _, rfl, rfl, by omega, qRs_bad hs hr7q (by omega) _ _ _⟩ | exact False.elim (by omega)
              · skip
                refine qr_aload_n 29 rfl rfl rfl ?_
                refine qr_cget7 hi 32 rfl rfl ?_
                refine qr_if_ne 72 35 rfl rfl rfl (by omega) (fun _ => ?_) (fun h => False.elim (by omega))
                refine qr_aload_n 73 rfl rfl rfl ?_
                refine qr_cget7 hi 76 rfl rfl ?_
                refine qr_if_eq 86 79 rfl rfl rfl (by omega) (fun h => False.elim (by omega)) (fun _ => ?_)
                refine qr_aload_n 80 rfl rfl rfl ?_
                refine qr_cget4 hi 83 rfl rfl ?_
                refine qr_goto 87 rfl rfl ?_
                refine qr_retI rfl rfl (Nat.zero_le _) (Nat.zero_le _) ?_
                first | exact ⟨_, _, _, _, _, _, rfl, rfl, by omega, qRs_bad hs hr7q (by omega) _ _ _⟩ | exact False.elim (by omega)
          · skip
            refine qr_goto 72 rfl rfl ?_
            refine qr_aload_n 73 rfl rfl rfl ?_
            refine qr_cget7 hi 76 rfl rfl ?_
            refine qr_if_eq 86 79 rfl rfl rfl (by omega) (fun h15 => ?_) (fun h15 => ?_)
            · skip
              refine qr_iconst 87 rfl rfl ?_
              refine qr_retI rfl rfl (Nat.zero_le _) (Nat.zero_le _) ?_
              first | exact False.elim (by omega) | (have hz : sk5 = 0 := (by omega); rw [hz] at hr7q; exact ⟨_, _, _, _, _, _, rfl, rfl, by omega, qRs_end hs hr7q (by omega)⟩)
            · skip
              refine qr_aload_n 80 rfl rfl rfl ?_
              refine qr_cget4 hi 83 rfl rfl ?_
              refine qr_goto 87 rfl rfl ?_
              refine qr_retI rfl rfl (Nat.zero_le _) (Nat.zero_le _) ?_
              first | exact ⟨_, _, _, _, _, _, rfl, rfl, by omega, qRs_bad hs hr7q (by omega) _ _ _⟩ | exact False.elim (by omega)
  refine qr_aload_n 1 rfl rfl rfl ?_
  refine qr_iconst 2 rfl rfl ?_
  refine qr_cput4 hi 5 rfl rfl ?_
  refine qr_aload_n 6 rfl rfl rfl ?_
  refine qr_iconst 7 rfl rfl ?_
  refine qr_cput5 hi 10 rfl rfl ?_
  refine qr_aload_n 11 rfl rfl rfl ?_
  refine qr_iconst 12 rfl rfl ?_
  refine qr_cput6 hi 15 rfl rfl ?_
  refine qr_aload_n 16 rfl rfl rfl ?_
  refine qr_iconst 17 rfl rfl ?_
  refine qr_cput7 hi (by omega) 20 rfl rfl ?_
  refine qr_iconst 21 rfl rfl ?_
  refine qr_istore_n [(1, .int (qz 0)), (0, .ref a)] 22 rfl (by decide) rfl rfl ?_
  exact loop 121 0 0 0 0 cd (by omega) (by omega) (qRs_0 t 0 cd hl)
end
