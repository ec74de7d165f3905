/-! in which order they leave -/
noncomputable def qfj (F : Int → Int) : Nat → Int
  | 0 => -2
  | n + 1 => if qfj F n = -2 then F (n : Int) else qfj F n
theorem qfj_s (F : Int → Int) {i : Int} (h : 0 ≤ i) : (qfj F i.toNat = -2 ∧ qfj F (i + 1).toNat = F i) ∨ (¬ qfj F i.toNat = -2 ∧ qfj F (i + 1).toNat = qfj F i.toNat) := by
  obtain ⟨m, rfl⟩ : ∃ m : Nat, i = m := ⟨i.toNat, by omega⟩
  rw [show ((m : Int) + 1).toNat = m + 1 by omega, Int.toNat_natCast]
  by_cases c : qfj F m = -2
  · exact Or.inl ⟨c, if_pos c⟩
  · exact Or.inr ⟨c, if_neg c⟩
theorem qfj_up {F : Int → Int} {m : Nat} (h : ¬ qfj F m = -2) : ∀ k : Nat, qfj F (m + k) = qfj F m
  | 0 => rfl
  | k + 1 => by
    have ih := qfj_up h k
    have e : qfj F (m + (k + 1)) = qfj F (m + k) := if_neg (show ¬ qfj F (m + k) = -2 by rw [ih]; exact h)
    rw [e, ih]
theorem qfj_hit {F : Int → Int} {i n v : Int} (h0 : 0 ≤ i) (hi : i < n) (h : qfj F i.toNat = -2) (hv : v = F i) (hn : ¬ v = -2) : v = qfj F n.toNat := by
  have h1 := qfj_s F h0
  have e : qfj F (i + 1).toNat = v := by
    rcases h1 with h1 | h1
    · rw [h1.2, hv]
    · exact absurd h h1.1
  have h2 := qfj_up (F := F) (m := (i + 1).toNat) (by rw [e]; exact hn) (n.toNat - (i + 1).toNat)
  rw [show (i + 1).toNat + (n.toNat - (i + 1).toNat) = n.toNat by omega, e] at h2
  exact h2.symm
theorem qfj_go {F : Int → Int} {i : Int} (h0 : 0 ≤ i) (h : qfj F i.toNat = -2) (hv : F i = -2) : qfj F (i + 1).toNat = -2 := by
  have h1 := qfj_s F h0
  rcases h1 with h1 | h1
  · rw [h1.2, hv]
  · exact absurd h h1.1
theorem qfj_cg {F G : Int → Int} : ∀ n : Nat, (∀ i : Int, 0 ≤ i → i < (n : Int) → F i = G i) → qfj F n = qfj G n
  | 0, _ => rfl
  | n + 1, h => by
    show (if qfj F n = -2 then F (n : Int) else qfj F n) = (if qfj G n = -2 then G (n : Int) else qfj G n)
    rw [qfj_cg n (fun i h0 h1 => h i h0 (by omega)), h (n : Int) (by omega) (by omega)]
/-- an order as digits -/
def qdg (os : List Int) : Int := os.foldl (fun d i => 10 * d + i + 1) 0
theorem qdg_app (os : List Int) (i : Int) : qdg (os ++ [i]) = 10 * qdg os + i + 1 := by
  unfold qdg
  rw [List.foldl_append]
  rfl
/-- the first order behind a beginning: B says who may not come next -/
noncomputable def qdp (B : List Int → Int → Prop) (n : Nat) : Nat → List Int → Int
  | 0, os => qdg os
  | k + 1, os => qfj (fun i => @ite Int (B os i) (Classical.propDecidable (B os i)) (-2) (qdp B n k (os ++ [i]))) n
noncomputable def qdF (B : List Int → Int → Prop) (n k : Nat) (os : List Int) (i : Int) : Int := @ite Int (B os i) (Classical.propDecidable (B os i)) (-2) (qdp B n k (os ++ [i]))
theorem qdp_s {B : List Int → Int → Prop} {n k m : Nat} {os : List Int} (h : m = k + 1) : qdp B n m os = qfj (qdF B n k os) n := by
  rw [h]
  rfl
theorem qdF_b {B : List Int → Int → Prop} {n k : Nat} {os : List Int} {i : Int} (h : B os i) : qdF B n k os i = -2 := if_pos h
theorem qdF_n {B : List Int → Int → Prop} {n k : Nat} {os : List Int} {i : Int} (h : ¬ B os i) : qdF B n k os i = qdp B n k (os ++ [i]) := if_neg h
theorem qdp_cg {B B' : List Int → Int → Prop} {n : Nat} (e : ∀ (os : List Int) (i : Int), os.length < n → (∀ o ∈ os, 0 ≤ o ∧ o < (n : Int)) → 0 ≤ i → i < (n : Int) → (B os i ↔ B' os i)) : ∀ (k : Nat) (os : List Int), os.length + k = n → (∀ o ∈ os, 0 ≤ o ∧ o < (n : Int)) → qdp B n k os = qdp B' n k os
  | 0, os, _, _ => rfl
  | k + 1, os, hl, ho => by
    rw [qdp_s (k := k) rfl, qdp_s (k := k) rfl]
    refine qfj_cg n (fun i h0 h1 => ?_)
    have e1 := e os i (by omega) ho h0 h1
    by_cases c : B os i
    · rw [qdF_b c, qdF_b (e1.mp c)]
    · rw [qdF_n c, qdF_n (fun z => c (e1.mpr z))]
      refine qdp_cg e k (os ++ [i]) (by rw [List.length_append]; show os.length + 1 + k = n; omega) (fun o hm => ?_)
      rcases List.mem_append.mp hm with hm | hm
      · exact ho o hm
      · rw [List.mem_singleton.mp hm]
        exact ⟨h0, h1⟩
/-- one may not come next: who has gone, or would meet one close ahead -/
def qLB (M : Int → Int → Int → Prop) (rc : Int) (os : List Int) (i : Int) : Prop := i ∈ os ∨ ∃ (e : Nat) (h : e < os.length), ((os.length : Int) - (e : Int) ≤ rc) ∧ M (os.length : Int) i os[e]
theorem qLB_of {M : Int → Int → Int → Prop} {rc t i : Int} {os : List Int} {r : Nat → Int} (hl : qLs r t os) (hi : ¬ i ∈ os) : qLB M rc os i ↔ ∃ e : Nat, (e : Int) < t ∧ t - rc ≤ (e : Int) ∧ M t i (r e) := by
  have h1 := hl.1
  constructor
  · rintro (h | ⟨e, he, h2, h3⟩)
    · exact absurd h hi
    · refine ⟨e, by omega, by omega, ?_⟩
      rw [hl.2 e he, ← h1]
      exact h3
  · rintro ⟨e, he, h2, h3⟩
    refine Or.inr ⟨e, by omega, by omega, ?_⟩
    rw [← hl.2 e (by omega), h1]
    exact h3
def qGo (x : Int) (os : List Int) : Prop := ∀ i : Int, 0 ≤ i → i < 32 → (qbi x i = 1 ↔ i ∈ os)
theorem qGo_0 : qGo 0 [] := fun i _ _ => by
  rw [qbi_0]
  exact ⟨fun z => absurd z (by decide), fun z => absurd z (List.not_mem_nil)⟩
theorem qGo_app {x v i : Int} {os : List Int} (h : qGo x os) (hi : 0 ≤ i ∧ i < 32) (hv : v = qz_or x (qz_shl 1 i)) : qGo v (os ++ [i]) := fun k h0 h1 => by
  have h2 := h k h0 h1
  rw [hv, qbi_or, qbi_shl hi h0, List.mem_append, List.mem_singleton, ← h2]
  by_cases e : k = i
  · rw [if_pos e, if_pos (Or.inr rfl)]
    exact ⟨fun _ => Or.inr e, fun _ => rfl⟩
  · rw [if_neg e]
    by_cases c : qbi x k = 1
    · rw [if_pos (Or.inl c)]
      exact ⟨fun _ => Or.inl c, fun _ => rfl⟩
    · rw [if_neg (fun z => z.elim c (fun y => absurd y (by decide)))]
      exact ⟨fun z => absurd z (by decide), fun z => z.elim (fun y => absurd y c) (fun y => absurd y e)⟩
theorem qLs_ag {r r' : Nat → Int} {n : Int} {l : List Int} (e : ∀ j : Nat, (j : Int) < n → r' j = r j) (h : qLs r n l) : qLs r' n l := ⟨h.1, fun i hi => (e i (by have := h.1; omega)).trans (h.2 i hi)⟩
theorem qLs_nx {r r' : Nat → Int} {t i : Int} {os : List Int} (h : qLs r t os) (ht : 0 ≤ t) (e : r' = qzu r t.toNat i) : qLs r' (t + 1) (os ++ [i]) := by
  rw [e]
  exact qLs_app h
theorem qLs_kp {r r' : Nat → Int} {t : Int} {a : Nat} {v : Int} (ha : t ≤ (a : Int)) (e : r' = qzu r a v) : ∀ j : Nat, (j : Int) < t → r' j = r j := fun j hj => by
  rw [e]
  exact if_neg (by omega)
theorem qdv {a b : Int} (ha : 0 ≤ a ∧ a ≤ 99) (hb : 1 ≤ b) : 0 ≤ a / b ∧ a / b ≤ 99 := ⟨Int.ediv_nonneg ha.1 (by omega), Int.le_trans (Int.ediv_le_self _ ha.1) ha.2⟩
theorem qdv_le {d s f : Int} (hs : 1 ≤ s) : d ≤ f / s ↔ d * s ≤ f := Int.le_ediv_iff_mul_le (by omega)
/-- two on one road, at feud and under no peace -/
def qClC (σ α : Nat → Nat → Int) (h p q : Int) : Prop := α 21 (p : Int).toNat = α 21 (q : Int).toNat ∧ qnF (qTb (α 24)) (α 28) (α 29) (α 31) (α 30) (α 33) (σ 27 6) (σ 27 7) p q h < 576 ∧ qsm (qhF (α 35) (α 36) (α 37) (α 40) (qcv (α 41)) (qlw (α 22)) p q h) (σ 34 7 : Int).toNat = 0
def qClM (σ α : Nat → Nat → Int) (h p q : Int) : Prop := ¬ p = q ∧ α 93 (p : Int).toNat = α 93 (q : Int).toNat ∧ qnF (qd9 (α 94) (α 95) (σ 86 11)) (α 97) (α 98) (α 100) (α 99) (qsh (α 87) 32) (σ 86 22) (σ 86 16) p q h < 576 ∧ qsm (qhF (qsh (α 87) 192) (α 102) (α 103) (qun (α 104) (α 105) (qsh (α 87) 192)) (qcw (α 87)) (qll (α 91)) p q h) (σ 86 24 : Int).toNat = 0
theorem qhG_00 (f : Nat → Int) : qhG 0 f = f := by
  funext k
  unfold qhG
  rw [qbit_0]
  exact if_neg (by decide)
theorem qhd_0 {f : Nat → Int} (h01 : ∀ k, 0 ≤ f k ∧ f k ≤ 1) {n : Nat} (hn : n ≤ 64) {b : Int} (hb : b = 0) : ql_and (qbs f n) (ql_xor b (-1)) = 0 ↔ qsm f n = 0 := by
  have h1 := qhd_cn h01 hn b
  rw [hb, qhG_00] at h1
  have h2 := qgl_nz (L := ql_and (qbs f n) (ql_xor b (-1))) (ql_and_r _ _)
  have h3 := qcn_b (ql_and (qbs f n) (ql_xor b (-1)))
  rw [hb] at h2 h3 ⊢
  constructor
  · intro h
    rw [h, qcn_z] at h1
    exact h1.symm
  · intro h
    by_cases c : ql_and (qbs f n) (ql_xor 0 (-1)) = 0
    · exact c
    · have := h2.mp c
      omega
/-- rows of bits by turns and places -/
def qBT (P : Int → Int → Int → Prop) (r : Nat → Int) : Prop := ∀ t i o : Int, 0 ≤ t → t < 6 → 0 ≤ i → i < 6 → 0 ≤ o → o < 32 → (qbi (r (t * 6 + i : Int).toNat) o = 1 ↔ P t i o)
theorem qBT_cg {P P' : Int → Int → Int → Prop} {r : Nat → Int} (h : qBT P r) (e : ∀ t i o : Int, 0 ≤ t → 0 ≤ i → 0 ≤ o → (P t i o ↔ P' t i o)) : qBT P' r := fun t i o a b c d f g => (h t i o a b c d f g).trans (e t i o a c f)
theorem qBT_u {P : Int → Int → Int → Prop} {r r' : Nat → Int} {T I O v : Int} (h : qBT P r) (hT : 0 ≤ T ∧ T < 6) (hI : 0 ≤ I ∧ I < 6) (hO : 0 ≤ O ∧ O < 32) (e : r' = qzu r (T * 6 + I : Int).toNat v) (e1 : v = qz_or (r (T * 6 + I : Int).toNat) (qz_shl 1 O)) : qBT (fun t i o => P t i o ∨ (t = T ∧ i = I ∧ o = O)) r' := by
  intro t i o t0 t6 i0 i6 o0 o32
  have h1 := h t i o t0 t6 i0 i6 o0 o32
  have ea : r' (t * 6 + i : Int).toNat = if (t * 6 + i : Int).toNat = (T * 6 + I : Int).toNat then v else r (t * 6 + i : Int).toNat := by
    rw [e]
    rfl
  show qbi (r' (t * 6 + i : Int).toNat) o = 1 ↔ (P t i o ∨ (t = T ∧ i = I ∧ o = O))
  rw [ea, ← h1]
  by_cases c : t = T ∧ i = I
  · rw [c.1, c.2, if_pos rfl, e1, qbi_or, qbi_shl hO o0]
    by_cases cb : o = O
    · rw [if_pos cb, if_pos (Or.inr rfl)]
      exact ⟨fun _ => Or.inr ⟨rfl, rfl, cb⟩, fun _ => rfl⟩
    · rw [if_neg cb]
      by_cases d : qbi (r (T * 6 + I : Int).toNat) o = 1
      · rw [if_pos (Or.inl d)]
        exact ⟨fun _ => Or.inl d, fun _ => rfl⟩
      · rw [if_neg (fun z => z.elim d (fun y => absurd y (by decide)))]
        exact ⟨fun z => absurd z (by decide), fun z => z.elim (fun y => absurd y d) (fun y => absurd y.2.2 cb)⟩
  · rw [if_neg (by omega)]
    exact ⟨fun z => Or.inl z, fun z => z.elim id (fun y => absurd ⟨y.1, y.2.1⟩ c)⟩
/-- so far: by turns, then one place, then the other one -/
def qTpp (C : Int → Int → Int → Prop) (n T I O t i o : Int) : Prop := (t < T ∨ (t = T ∧ (i < I ∨ (i = I ∧ o < O)))) ∧ i < n ∧ o < n ∧ ¬ i = o ∧ C t i o
theorem qTpp_0 {C : Int → Int → Int → Prop} {r : Nat → Int} {n : Int} (h : ∀ j : Nat, (j : Int) < 36 → r j = 0) : qBT (qTpp C n 0 0 0) r := fun t i o t0 t6 i0 i6 o0 o32 => by
  rw [h (t * 6 + i : Int).toNat (by omega), qbi_0]
  refine ⟨fun z => absurd z (by decide), fun z => ?_⟩
  have := z.1
  exact False.elim (by omega)
theorem qTpp_o {C : Int → Int → Int → Prop} {r : Nat → Int} {n T I O : Int} (hO : n ≤ O) (h : qBT (qTpp C n T I O) r) : qBT (qTpp C n T (I + 1) 0) r := qBT_cg h (fun t i o _ _ o0 => by
  constructor
  · rintro ⟨h1, h2, h3, h4⟩
    exact ⟨by omega, h2, h3, h4⟩
  · rintro ⟨h1, h2, h3, h4⟩
    exact ⟨by omega, h2, h3, h4⟩)
theorem qTpp_t {C : Int → Int → Int → Prop} {r : Nat → Int} {n T I : Int} (hI : n ≤ I) (h : qBT (qTpp C n T I 0) r) : qBT (qTpp C n (T + 1) 0 0) r := qBT_cg h (fun t i o _ i0 o0 => by
  constructor
  · rintro ⟨h1, h2, h3, h4⟩
    exact ⟨by omega, h2, h3, h4⟩
  · rintro ⟨h1, h2, h3, h4⟩
    exact ⟨by omega, h2, h3, h4⟩)
theorem qTpp_n {C : Int → Int → Int → Prop} {r : Nat → Int} {n T I O : Int} (hn : ¬ (¬ I = O ∧ C T I O)) (h : qBT (qTpp C n T I O) r) : qBT (qTpp C n T I (O + 1)) r := qBT_cg h (fun t i o _ _ _ => by
  constructor
  · rintro ⟨h1, h2, h3, h4⟩
    exact ⟨by omega, h2, h3, h4⟩
  · rintro ⟨h1, h2, h3, h4⟩
    by_cases c : t = T ∧ i = I ∧ o = O
    · obtain ⟨c1, c2, c3⟩ := c
      subst c1 c2 c3
      exact absurd h4 hn
    · exact ⟨by omega, h2, h3, h4⟩)
theorem qTpp_y {C : Int → Int → Int → Prop} {r r' : Nat → Int} {n T I O v : Int} (hy : ¬ I = O ∧ C T I O) (hT : 0 ≤ T ∧ T < 6) (hI : 0 ≤ I ∧ I < 6 ∧ I < n) (hO : 0 ≤ O ∧ O < 32 ∧ O < n) (e : r' = qzu r (T * 6 + I : Int).toNat v) (e1 : v = qz_or (r (T * 6 + I : Int).toNat) (qz_shl 1 O)) (h : qBT (qTpp C n T I O) r) : qBT (qTpp C n T I (O + 1)) r' := qBT_cg (qBT_u h hT ⟨hI.1, hI.2.1⟩ ⟨hO.1, hO.2.1⟩ e e1) (fun t i o _ _ _ => by
  constructor
  · rintro (⟨h1, h2, h3, h4⟩ | ⟨h1, h2, h3⟩)
    · exact ⟨by omega, h2, h3, h4⟩
    · subst h1 h2 h3
      exact ⟨by omega, hI.2.2, hO.2.2, hy⟩
  · rintro ⟨h1, h2, h3, h4⟩
    by_cases c : t = T ∧ i = I ∧ o = O
    · exact Or.inr c
    · exact Or.inl ⟨by omega, h2, h3, h4⟩)
/-- at the end -/
def qTE (C : Int → Int → Int → Prop) (n : Int) (r : Nat → Int) : Prop := ∀ t i o : Int, 0 ≤ t → t < n → 0 ≤ i → i < n → 0 ≤ o → o < n → (qbi (r (t * 6 + i : Int).toNat) o = 1 ↔ ¬ i = o ∧ C t i o)
theorem qTE_of {C : Int → Int → Int → Prop} {r : Nat → Int} {n T : Int} (hT : n ≤ T) (hn : n ≤ 6) (h : qBT (qTpp C n T 0 0) r) : qTE C n r := fun t i o t0 tn i0 i_n o0 o_n => by
  have h1 := h t i o t0 (by omega) i0 (by omega) o0 (by omega)
  rw [h1]
  constructor
  · rintro ⟨h1, h2, h3, h4⟩
    exact h4
  · intro h4
    exact ⟨by omega, i_n, o_n, h4⟩
theorem qClC_fr {S : List (Nat × Nat)} {R : List Nat} {σ α σ' α' : Nat → Nat → Int} (hG : qFr S R σ α σ' α') (hs : [(27, 6), (27, 7), (34, 7)].all (fun x => !S.contains x) = true) (hr : [21, 22, 24, 28, 29, 30, 31, 33, 35, 36, 37, 40, 41].all (fun x => !R.contains x) = true) : qClC σ' α' = qClC σ α := by
  have es : ∀ a k, (a, k) ∈ [(27, 6), (27, 7), (34, 7)] → σ' a k = σ a k := fun a k hm => hG.1 a k (fun hn => by
    have h1 := List.all_eq_true.mp hs (a, k) hm
    rw [List.contains_iff_mem.mpr hn] at h1
    exact absurd h1 (by decide))
  have er : ∀ a, a ∈ [21, 22, 24, 28, 29, 30, 31, 33, 35, 36, 37, 40, 41] → α' a = α a := fun a hm => hG.2 a (fun hn => by
    have h1 := List.all_eq_true.mp hr a hm
    rw [List.contains_iff_mem.mpr hn] at h1
    exact absurd h1 (by decide))
  funext h p q
  unfold qClC
  rw [es 27 6 (by decide), es 27 7 (by decide), es 34 7 (by decide), er 21 (by decide), er 22 (by decide), er 24 (by decide), er 28 (by decide), er 29 (by decide), er 30 (by decide), er 31 (by decide), er 33 (by decide), er 35 (by decide), er 36 (by decide), er 37 (by decide), er 40 (by decide), er 41 (by decide)]
def qAny (B : Nat → Prop) : Prop := ∃ e : Nat, B e
def qHas (r : Nat → Int) (n Q : Int) : Prop := ∃ os : List Int, qLs r n os ∧ qdg os = Q ∧ ¬ Q = -2
theorem qClM_fr {S : List (Nat × Nat)} {R : List Nat} {σ α σ' α' : Nat → Nat → Int} (hG : qFr S R σ α σ' α') (hs : [(86, 11), (86, 16), (86, 22), (86, 24)].all (fun x => !S.contains x) = true) (hr : [87, 91, 93, 94, 95, 97, 98, 99, 100, 102, 103, 104, 105].all (fun x => !R.contains x) = true) : qClM σ' α' = qClM σ α := by
  have es : ∀ a k, (a, k) ∈ [(86, 11), (86, 16), (86, 22), (86, 24)] → σ' a k = σ a k := fun a k hm => hG.1 a k (fun hn => by
    have h1 := List.all_eq_true.mp hs (a, k) hm
    rw [List.contains_iff_mem.mpr hn] at h1
    exact absurd h1 (by decide))
  have er : ∀ a, a ∈ [87, 91, 93, 94, 95, 97, 98, 99, 100, 102, 103, 104, 105] → α' a = α a := fun a hm => hG.2 a (fun hn => by
    have h1 := List.all_eq_true.mp hr a hm
    rw [List.contains_iff_mem.mpr hn] at h1
    exact absurd h1 (by decide))
  funext h p q
  unfold qClM
  rw [es 86 11 (by decide), es 86 16 (by decide), es 86 22 (by decide), es 86 24 (by decide), er 87 (by decide), er 91 (by decide), er 93 (by decide), er 94 (by decide), er 95 (by decide), er 97 (by decide), er 98 (by decide), er 99 (by decide), er 100 (by decide), er 102 (by decide), er 103 (by decide), er 104 (by decide), er 105 (by decide)]
theorem qord_r {r r' : Nat → Int} {t i m : Int} {os : List Int} (ht : 0 ≤ t) (h : qLs r t os) (e : r' = qzu r t.toNat i) (ho : ∀ o ∈ os, 0 ≤ o ∧ o < m) (hi : 0 ≤ i ∧ i < m) : ∀ j : Nat, (j : Int) ≤ t → 0 ≤ r' j ∧ r' j < m := fun j hj => by
  have h1 := h.1
  by_cases c : j = t.toNat
  · have e1 : r' j = i := by
      rw [e]
      exact if_pos c
    rw [e1]
    exact hi
  · have e1 : r' j = r j := by
      rw [e]
      exact if_neg c
    rw [e1, h.2 j (by omega)]
    exact ho _ (List.getElem_mem _)
theorem qord_d {r r' : Nat → Int} {t i : Int} {os : List Int} (ht : 0 ≤ t) (h : qLs r t os) (e : r' = qzu r t.toNat i) (hi : ¬ i ∈ os) : ∀ j : Nat, (j : Int) < t → ¬ r' j = r' t.toNat := fun j hj hz => by
  have h1 := h.1
  have e1 : r' t.toNat = i := by
    rw [e]
    exact if_pos rfl
  have e2 : r' j = r j := by
    rw [e]
    exact if_neg (by omega)
  rw [e1, e2, h.2 j (by omega)] at hz
  exact hi (hz ▸ List.getElem_mem _)
theorem qord_l {r r' : Nat → Int} {t i : Int} {os : List Int} (ht : 0 ≤ t) (h : qLs r t os) (e : r' = qzu r t.toNat i) : qLs r' t os := qLs_ag (qLs_kp (by omega) e) h
theorem qord_a {r r' : Nat → Int} {t i : Int} (e : r' = qzu r t.toNat i) : r' t.toNat = i := by
  rw [e]
  exact if_pos rfl
theorem qdg_nn : ∀ (k : Nat) (os : List Int), os.length = k → (∀ o ∈ os, 0 ≤ o) → 0 ≤ qdg os := by
  have key : ∀ (os : List Int) (d : Int), 0 ≤ d → (∀ o ∈ os, 0 ≤ o) → 0 ≤ os.foldl (fun d i => 10 * d + i + 1) d := by
    intro os
    induction os with
    | nil => intro d h _; exact h
    | cons a os ih =>
      intro d h ho
      have ha := ho a (List.mem_cons_self ..)
      exact ih (10 * d + a + 1) (by omega) (fun o hm => ho o (List.mem_cons_of_mem _ hm))
  intro k os _ ho
  exact key os 0 (by decide) ho

set_option maxHeartbeats 4000000 in
set_option maxRecDepth 20000 in
/-- OneRoof$Guests.clash -/
theorem sf_129_64x {L : Nat} {xs : Nat → Int} {vb : Bool} {d : Nat} {σ α : Nat → Nat → Int} {κ : Nat → Option Nat} {ρ : Nat} {x1 : Int} {x2 : Int} (hI : qI σ α κ ρ) (r1 : 0 ≤ x1 ∧ x1 ≤ 31) (r2 : 0 ≤ x2 ∧ x2 ≤ 31) (p0 : ¬ x1 = x2) (p1 : qCaN (α 60) (α 61) (σ 58 12) (fun p q => qnF (qTb (α 24)) (α 28) (α 29) (α 31) (α 30) (α 33) (σ 27 6) (σ 27 7) p q (σ 58 11))) (p2 : qCaN (α 62) (α 63) (σ 58 12) (fun p q => qbs (qhF (α 35) (α 36) (α 37) (α 40) (qcv (α 41)) (qlw (α 22)) p q (σ 58 11)) (σ 34 7 : Int).toNat)) (p3 : qZp σ α) (p4 : σ 58 10 = 0) : qm_T (qe L xs vb) (d + 4) 129 [.ref 64, .int (qz x1), .int (qz x2)] (qw σ α κ ρ) (fun r w' => ∃ α', w' = qw σ α' κ ρ ∧ qI σ α' κ ρ ∧ qFr [] [60, 61, 62, 63] σ α σ α' ∧ ∃ v : Int, r = some (.int (qz v)) ∧ (0 ≤ v ∧ v ≤ 1) ∧ ((v = 1 ∧ qClC σ α (σ 58 11) x1 x2) ∨ (v = 0 ∧ ¬ qClC σ α (σ 58 11) x1 x2)) ∧ qCaN (α' 60) (α' 61) (σ 58 12) (fun p q => qnF (qTb (α 24)) (α 28) (α 29) (α 31) (α 30) (α 33) (σ 27 6) (σ 27 7) p q (σ 58 11)) ∧ qCaN (α' 62) (α' 63) (σ 58 12) (fun p q => qbs (qhF (α 35) (α 36) (α 37) (α 40) (qcv (α 41)) (qlw (α 22)) p q (σ 58 11)) (σ 34 7 : Int).toNat)) := by
  refine qr_start (d := d + 3) qv_e129 (Nat.le_of_ble_eq_true rfl) ?_
  show qr_W (qe L xs vb) (d + 3) qx_e129 _ (0, [(0, .ref 64), (1, .int (qz x1)), (2, .int (qz x2))], [], _, 0, 0)
  have hF0 := qFr_rf [] [60, 61, 62, 63] σ α
  have hz58_12 : (-2147483648) ≤ σ 58 12 ∧ σ 58 12 ≤ 2147483647 := hI.1 58 12
  have hz27_6 : (-9223372036854775808) ≤ σ 27 6 ∧ σ 27 6 ≤ 9223372036854775807 := hI.1 27 6
  have hz27_7 : 0 ≤ σ 27 7 ∧ σ 27 7 ≤ 40 := hI.1 27 7
  have hz58_11 : (-2147483648) ≤ σ 58 11 ∧ σ 58 11 ≤ 2147483647 := hI.1 58 11
  have hz34_7 : 0 ≤ σ 34 7 ∧ σ 34 7 ≤ 60 := hI.1 34 7
  have hz58_10 : (-9223372036854775808) ≤ σ 58 10 ∧ σ 58 10 ≤ 9223372036854775807 := hI.1 58 10
  have hz17_6 : 0 ≤ σ 17 6 ∧ σ 17 6 ≤ 32 := hI.1 17 6
  refine qr_aload_n 1 rfl rfl rfl ?_
  refine qr_get 4 rfl rfl rfl (by decide) rfl ?_
  refine qr_get 7 rfl rfl rfl (by decide) rfl ?_
  refine qr_get 10 rfl rfl rfl (by decide) rfl ?_
  refine qr_iload_n 11 rfl rfl rfl ?_
  refine qr_iaload 12 rfl rfl (qrgi r1 (by decide) (by decide)) (by decide) rfl ?_
  refine qr_topI (fun v1 hv1 => ?_)
  have hs2 : (-2147483648) ≤ v1 ∧ v1 ≤ 2147483647 := by rw [hv1]; exact hI.2.1 21 _ (show _ < 32 from qrgt r1 (by decide) (by decide))
  refine qr_aload_n 13 rfl rfl rfl ?_
  refine qr_get 16 rfl rfl rfl (by decide) rfl ?_
  refine qr_get 19 rfl rfl rfl (by decide) rfl ?_
  refine qr_get 22 rfl rfl rfl (by decide) rfl ?_
  refine qr_iload_n 23 rfl rfl rfl ?_
  refine qr_iaload 24 rfl rfl (qrgi r2 (by decide) (by decide)) (by decide) rfl ?_
  refine qr_topI (fun v3 hv3 => ?_)
  have hs4 : (-2147483648) ≤ v3 ∧ v3 ≤ 2147483647 := by rw [hv3]; exact hI.2.1 21 _ (show _ < 32 from qrgt r2 (by decide) (by decide))
  refine qr_icmp_ne 60 27 rfl rfl rfl hs2 hs4 (fun h5 => ?_) (fun h5 => ?_)
  · skip
    refine qr_iconst 61 rfl rfl ?_
    refine qr_retZ rfl rfl (Or.inl rfl) (by decide) (by decide) ?_
    exact ⟨_, rfl, hI, hF0, 0, rfl, (by decide), (Or.inr ⟨rfl, fun hc => by have w1 : α 21 (x1 : Int).toNat = v1 := hv1.symm; have w2 : α 21 (x2 : Int).toNat = v3 := hv3.symm; have hz := hc.1; omega⟩), p1, p2⟩
  · skip
    refine qr_aload_n 28 rfl rfl rfl ?_
    refine qr_get 31 rfl rfl rfl (by decide) rfl ?_
    refine qr_iload_n 32 rfl rfl rfl ?_
    refine qr_iload_n 33 rfl rfl rfl ?_
    have hs6 : (-9223372036854775808) ≤ σ 27 6 ∧ σ 27 6 ≤ 9223372036854775807 := hI.1 27 6
    have hs7 : 0 ≤ σ 27 7 ∧ σ 27 7 ≤ 40 := hI.1 27 7
    have hs8 : (-2147483648) ≤ σ 58 11 ∧ σ 58 11 ≤ 2147483647 := hI.1 58 11
    have hs9 : (-2147483648) ≤ σ 58 12 ∧ σ 58 12 ≤ 2147483647 := hI.1 58 12
    refine qr_callN 36 rfl rfl rfl (sf_92_58x (d := d + 0) hI r1 r2 (by omega) p1) ?_
    rintro _ _ ⟨α13, rfl, hI14, hG15, v10, rfl, hv10, hx11, hx12⟩
    have hF16 : qFr [] [60, 61, 62, 63] σ α σ α13 := qFr_t hF0 hG15 (by decide) (by decide)
    show qr_W (qe L xs vb) (d + 3) qx_e129 _ (36, _, [.int (qz v10)], qw σ α13 κ ρ, 0, 0)
    refine qr_sipush 39 rfl (by decide) rfl ?_
    refine qr_icmp_ge 60 42 rfl rfl rfl (qrg hv10 (by decide) (by decide)) (by decide) (fun h17 => ?_) (fun h17 => ?_)
    · skip
      refine qr_iconst 61 rfl rfl ?_
      refine qr_retZ rfl rfl (Or.inl rfl) (by decide) (by decide) ?_
      exact ⟨_, rfl, hI14, hF16, 0, rfl, (by decide), (Or.inr ⟨rfl, fun hc => by have w3 := hx11; have hz := hc.2.1; omega⟩), hx12, (by rw [hG15.2 62 (by decide), hG15.2 63 (by decide)]; exact p2)⟩
    · skip
      refine qr_aload_n 43 rfl rfl rfl ?_
      refine qr_get 46 rfl rfl rfl (by decide) rfl ?_
      refine qr_iload_n 47 rfl rfl rfl ?_
      refine qr_iload_n 48 rfl rfl rfl ?_
      have hs18 : 0 ≤ σ 34 7 ∧ σ 34 7 ≤ 60 := hI14.1 34 7
      have hs19 : (-2147483648) ≤ σ 58 11 ∧ σ 58 11 ≤ 2147483647 := hI14.1 58 11
      have hs20 : (-2147483648) ≤ σ 58 12 ∧ σ 58 12 ≤ 2147483647 := hI14.1 58 12
      refine qr_callN 51 rfl rfl rfl (sf_94_58x (d := d + 0) hI14 r1 r2 (by omega) (by rw [hF16.2 22 (by decide), hF16.2 35 (by decide), hF16.2 36 (by decide), hF16.2 37 (by decide), hF16.2 40 (by decide), hF16.2 41 (by decide), hG15.2 62 (by decide), hG15.2 63 (by decide)]; exact p2) (qZp_fr hF16 (by decide) (by decide) p3)) ?_
      rintro _ _ ⟨α24, rfl, hI25, hG26, v21, rfl, hv21, hx22, hx23⟩
      have hF27 : qFr [] [60, 61, 62, 63] σ α σ α24 := qFr_t hF16 hG26 (by decide) (by decide)
      rw [hF16.2 22 (by decide), hF16.2 35 (by decide), hF16.2 36 (by decide), hF16.2 37 (by decide), hF16.2 40 (by decide), hF16.2 41 (by decide)] at hx22
      rw [hF16.2 22 (by decide), hF16.2 35 (by decide), hF16.2 36 (by decide), hF16.2 37 (by decide), hF16.2 40 (by decide), hF16.2 41 (by decide)] at hx23
      show qr_W (qe L xs vb) (d + 3) qx_e129 _ (51, _, [.long (ql v21)], qw σ α24 κ ρ, 0, 0)
      refine qr_lconst 52 rfl rfl ?_
      refine qy_vl 0 rfl ?_
      refine qr_lc_ne 60 56 rfl rfl rfl rfl hv21 (by decide) (fun h28 => ?_) (fun h28 => ?_)
      · skip
        refine qr_iconst 61 rfl rfl ?_
        refine qr_retZ rfl rfl (Or.inl rfl) (by decide) (by decide) ?_
        exact ⟨_, rfl, hI25, hF27, 0, rfl, (by decide), (Or.inr ⟨rfl, fun hc => by have hz := (qhd_0 (f := qhF (α 35) (α 36) (α 37) (α 40) (qcv (α 41)) (qlw (α 22)) x1 x2 (σ 58 11)) (fun k => qho_01 _ _ _ _ _ _ _ _ _ _ _) (by omega) p4).mpr hc.2.2; rw [← hx22] at hz; omega⟩), (by rw [hG26.2 60 (by decide), hG26.2 61 (by decide)]; exact hx12), hx23⟩
      · skip
        refine qr_iconst 57 rfl rfl ?_
        refine qr_goto 61 rfl rfl ?_
        refine qr_retZ rfl rfl (Or.inr rfl) (by decide) (by decide) ?_
        exact ⟨_, rfl, hI25, hF27, 1, rfl, (by decide), (Or.inl ⟨rfl, by have w1 : α 21 (x1 : Int).toNat = v1 := hv1.symm; have w2 : α 21 (x2 : Int).toNat = v3 := hv3.symm; have w3 := hx11; exact ⟨by omega, by omega, (qhd_0 (f := qhF (α 35) (α 36) (α 37) (α 40) (qcv (α 41)) (qlw (α 22)) x1 x2 (σ 58 11)) (fun k => qho_01 _ _ _ _ _ _ _ _ _ _ _) (by omega) p4).mp (by rw [← hx22]; omega)⟩⟩), (by rw [hG26.2 60 (by decide), hG26.2 61 (by decide)]; exact hx12), hx23⟩

set_option maxHeartbeats 4000000 in
set_option maxRecDepth 20000 in
/-- OneRoof$Guests.learnMeetings -/
theorem sf_128_64x {L : Nat} {xs : Nat → Int} {vb : Bool} {d : Nat} {σ α : Nat → Nat → Int} {κ : Nat → Option Nat} {ρ : Nat} {x1 : Int} {x2 : Int} {x3 : Int} (hI : qI σ α κ ρ) (r1 : 0 ≤ x1 ∧ x1 ≤ 2399) (r2 : 1 ≤ x2 ∧ x2 ≤ 24) (r3 : 0 ≤ x3 ∧ x3 ≤ 99) (p0 : σ 64 2 ≤ 6) (p1 : ∀ c : Nat, c < 496 → α 61 c ≤ σ 58 12) (p2 : ∀ c : Nat, c < 496 → α 63 c ≤ σ 58 12) (p3 : qZp σ α) (p4 : σ 58 10 = 0) (p5 : 0 ≤ σ 58 12 ∧ σ 58 12 ≤ 1999999900) : qm_T (qe L xs vb) (d + 5) 128 [.ref 64, .int (qz x1), .int (qz x2), .int (qz x3)] (qw σ α κ ρ) (fun r w' => ∃ σ' α', w' = qw σ' α' κ ρ ∧ qI σ' α' κ ρ ∧ qFr [(58, 11), (58, 12), (64, 7)] [60, 61, 62, 63, 68] σ α σ' α' ∧ σ' 58 12 ≤ σ 58 12 + 6 ∧ σ' 58 12 ≥ σ 58 12 ∧ σ' 64 7 = x3 / x2 ∧ r = none ∧ qTE (fun t i o : Int => qClC σ α (x1 + t * x2) (α 65 (i : Int).toNat) (α 65 (o : Int).toNat)) (σ 64 2) (α' 68) ∧ (∀ c : Nat, c < 496 → α' 61 c ≤ σ' 58 12) ∧ (∀ c : Nat, c < 496 → α' 63 c ≤ σ' 58 12)) := by
  refine qr_start (d := d + 4) qv_e128 (Nat.le_of_ble_eq_true rfl) ?_
  show qr_W (qe L xs vb) (d + 4) qx_e128 _ (0, [(0, .ref 64), (1, .int (qz x1)), (2, .int (qz x2)), (3, .int (qz x3))], [], _, 0, 0)
  have hF0 := qFr_rf [(58, 11), (58, 12), (64, 7)] [60, 61, 62, 63, 68] σ α
  have hz64_2 : 0 ≤ σ 64 2 ∧ σ 64 2 ≤ 12 := hI.1 64 2
  have hz58_12 : (-2147483648) ≤ σ 58 12 ∧ σ 58 12 ≤ 2147483647 := hI.1 58 12
  have hz58_10 : (-9223372036854775808) ≤ σ 58 10 ∧ σ 58 10 ≤ 9223372036854775807 := hI.1 58 10
  have hz17_5 : (-9223372036854775808) ≤ σ 17 5 ∧ σ 17 5 ≤ 9223372036854775807 := hI.1 17 5
  have hz17_6 : 0 ≤ σ 17 6 ∧ σ 17 6 ≤ 32 := hI.1 17 6
  have hz27_6 : (-9223372036854775808) ≤ σ 27 6 ∧ σ 27 6 ≤ 9223372036854775807 := hI.1 27 6
  have hz27_7 : 0 ≤ σ 27 7 ∧ σ 27 7 ≤ 40 := hI.1 27 7
  have hz34_7 : 0 ≤ σ 34 7 ∧ σ 34 7 ≤ 60 := hI.1 34 7
  have hz58_11 : (-2147483648) ≤ σ 58 11 ∧ σ 58 11 ≤ 2147483647 := hI.1 58 11
  have hz64_7 : (-2147483648) ≤ σ 64 7 ∧ σ 64 7 ≤ 2147483647 := hI.1 64 7
  refine qr_aload_n 1 rfl rfl rfl ?_
  refine qr_iload_n 2 rfl rfl rfl ?_
  refine qr_iconst 3 rfl rfl ?_
  refine qr_icmp_ge 10 6 rfl rfl rfl (qrg r2 (by decide) (by decide)) (by decide) (fun h1 => ?_) (fun h => False.elim (by omega))
  refine qr_iload_n 11 rfl rfl rfl ?_
  refine qr_iload_n 12 rfl rfl rfl ?_
  refine qr_idiv 13 rfl (qrg r3 (by decide) (by decide)) (qrgp r2 (by decide) (by decide)) rfl ?_
  refine qy_canE (fun v2 hv2 hev2 => ?_)
  have hdv := qdv (a := x3) (b := x2) (by omega) (by omega)
  have hdw := qz_val hev2 (by omega) (by omega)
  refine qr_put 16 rfl (by decide) rfl (Nat.le_of_ble_eq_true rfl) (Nat.le_of_ble_eq_true rfl) (Or.inl rfl) (qr_fitI rfl _) rfl ?_
  refine qy_wS (qw_s σ 64 7 v2) rfl (fun σ3 e4 => ?_)
  have hI5 : qI σ3 α κ ρ := by rw [e4]; exact qI_s hI 64 7 rfl (show (-2147483648) ≤ v2 ∧ v2 ≤ 2147483647 by omega)
  have hF6 : qFr [(58, 11), (58, 12), (64, 7)] [60, 61, 62, 63, 68] σ α σ3 α := by rw [e4]; exact qFr_s hF0 64 7 _ (by decide)
  refine qr_aload_n 17 rfl rfl rfl ?_
  refine qr_get 20 rfl rfl rfl (by decide) rfl ?_
  refine qr_iconst 21 rfl rfl ?_
  refine qr_callN 24 rfl rfl rfl (sf_4_68x (d := d + 3) hI5 (by decide)) ?_
  rintro _ _ ⟨α8, rfl, hI9, hG10, rfl, hx7⟩
  have hF11 : qFr [(58, 11), (58, 12), (64, 7)] [60, 61, 62, 63, 68] σ α σ3 α8 := qFr_t hF6 hG10 (by decide) (by decide)
  show qr_W (qe L xs vb) (d + 4) qx_e128 _ (24, _, [], qw σ3 α8 κ ρ, 0, 0)
  refine qr_iconst 25 rfl rfl ?_
  refine qr_istore _ 27 rfl (by decide) rfl rfl ?_
  have hL24948 : ∀ (n : Nat) (ls : qm_L) (u24928 : Int) (σ24929 α24930 : Nat → Nat → Int), 6 - u24928 < (n : Int) → qm_get ls 0 = some (.ref 64) → qm_get ls 1 = some (.int (qz x1)) → qm_get ls 2 = some (.int (qz x2)) → qm_get ls 4 = some (.int (qz u24928)) → (0 ≤ u24928 ∧ u24928 ≤ 6) → qI σ24929 α24930 κ ρ → qFr [(58, 11), (58, 12), (64, 7)] [60, 61, 62, 63, 68] σ α σ24929 α24930 → σ24929 17 5 = (σ 17 5) → σ24929 17 6 = (σ 17 6) → σ24929 27 6 = (σ 27 6) → σ24929 27 7 = (σ 27 7) → σ24929 34 7 = (σ 34 7) → σ24929 58 10 = (σ 58 10) → σ24929 64 2 = (σ 64 2) → σ24929 64 7 = v2 → α24930 65 = (α 65) → qBT (qTpp (fun t i o : Int => qClC σ α (x1 + t * x2) (α 65 (i : Int).toNat) (α 65 (o : Int).toNat)) (σ 64 2) u24928 0 0) (α24930 68) → (∀ c : Nat, c < 496 → α24930 61 c ≤ σ24929 58 12) → (∀ c : Nat, c < 496 → α24930 63 c ≤ σ24929 58 12) → σ24929 58 12 ≤ σ 58 12 + u24928 → σ 58 12 ≤ σ24929 58 12 → qr_W (qe L xs vb) (d + 4) qx_e128 (fun r w' => ∃ σ' α', w' = qw σ' α' κ ρ ∧ qI σ' α' κ ρ ∧ qFr [(58, 11), (58, 12), (64, 7)] [60, 61, 62, 63, 68] σ α σ' α' ∧ σ' 58 12 ≤ σ 58 12 + 6 ∧ σ' 58 12 ≥ σ 58 12 ∧ σ' 64 7 = x3 / x2 ∧ r = none ∧ qTE (fun t i o : Int => qClC σ α (x1 + t * x2) (α 65 (i : Int).toNat) (α 65 (o : Int).toNat)) (σ 64 2) (α' 68) ∧ (∀ c : Nat, c < 496 → α' 61 c ≤ σ' 58 12) ∧ (∀ c : Nat, c < 496 → α' 63 c ≤ σ' 58 12)) (27, ls, [], qw σ24929 α24930 κ ρ, 0, 0) := by
    intro n
    induction n with
    | zero => intro ls u24928 σ24929 α24930 hm g24924 g24925 g24926 g24927 hf24942 hI24931 hF24932 hk24933 hk24934 hk24935 hk24936 hk24937 hk24938 hk24939 hk24940 hk24941 hx24943 hx24944 hx24945 hx24946 hx24947; exact False.elim (by omega)
    | succ n ih24949 =>
      intro ls u24928 σ24929 α24930 hm g24924 g24925 g24926 g24927 hf24942 hI24931 hF24932 hk24933 hk24934 hk24935 hk24936 hk24937 hk24938 hk24939 hk24940 hk24941 hx24943 hx24944 hx24945 hx24946 hx24947
      have hs24950 : (-2147483648) ≤ σ24929 58 12 ∧ σ24929 58 12 ≤ 2147483647 := hI24931.1 58 12
      refine qr_iload 29 rfl g24927 rfl ?_
      refine qr_aload_n 30 rfl g24924 rfl ?_
      refine qr_get 33 rfl rfl rfl (by decide) rfl ?_
      refine qy_v (σ 64 2) ((hk24939).trans rfl) ?_
      refine qr_icmp_ge 139 36 rfl rfl rfl (qrg hf24942 (by decide) (by decide)) (qrg hz64_2 (by decide) (by decide)) (fun h24951 => ?_) (fun h24951 => ?_)
      · skip
        refine qr_retV rfl rfl (by decide) (by decide) ?_
        exact ⟨_, _, rfl, hI24931, hF24932, (by have hw : σ24929 58 12 = (σ24929 58 12) := rfl; omega), (by have hw : σ24929 58 12 = (σ24929 58 12) := rfl; omega), (by have hw : σ24929 64 7 = v2 := (hk24940).trans rfl; omega), rfl, (qTE_of (by omega) (by omega) hx24943), hx24944, hx24945⟩
      · skip
        refine qr_aload_n 37 rfl g24924 rfl ?_
        refine qr_get 40 rfl rfl rfl (by decide) rfl ?_
        refine qr_iload_n 41 rfl g24925 rfl ?_
        refine qr_iload 43 rfl g24927 rfl ?_
        refine qr_iload_n 44 rfl g24926 rfl ?_
        refine qr_imul 45 rfl rfl ?_
        refine qy_mulE (A := 12) (B := 24) (C := 288) (by omega) (by omega) (by decide) (fun v24952 hv24952 hmv24952 => ?_)
        refine qr_iadd 46 rfl rfl ?_
        have hs24953 : (-2147483648) ≤ σ24929 58 12 ∧ σ24929 58 12 ≤ 2147483647 := hI24931.1 58 12
        refine qr_callN 49 rfl rfl rfl (sf_89_58x (d := d + 3) hI24931 (by omega) (by omega)) ?_
        rintro _ _ ⟨σ24956, rfl, hI24957, hG24958, hw24954, hw24955, rfl⟩
        have hF24959 : qFr [(58, 11), (58, 12), (64, 7)] [60, 61, 62, 63, 68] σ α σ24956 α24930 := qFr_t hF24932 hG24958 (by decide) (by decide)
        have hs24960 : (-2147483648) ≤ σ24956 58 11 ∧ σ24956 58 11 ≤ 2147483647 := hI24957.1 58 11
        have hs24961 : (-2147483648) ≤ σ24956 58 12 ∧ σ24956 58 12 ≤ 2147483647 := hI24957.1 58 12
        show qr_W (qe L xs vb) (d + 4) qx_e128 _ (49, _, [], qw σ24956 α24930 κ ρ, 0, 0)
        have he24962 : σ24956 58 11 = x1 + u24928 * x2 := by rw [hw24954, hmv24952]
        refine qr_iconst 50 rfl rfl ?_
        refine qr_istore _ 52 rfl (by decide) rfl rfl ?_
        have hL27721 : ∀ (n : Nat) (ls : qm_L) (u27711 : Int) (α27713 : Nat → Nat → Int), 6 - u27711 < (n : Int) → qm_get ls 0 = some (.ref 64) → qm_get ls 1 = some (.int (qz x1)) → qm_get ls 2 = some (.int (qz x2)) → qm_get ls 4 = some (.int (qz u24928)) → qm_get ls 5 = some (.int (qz u27711)) → (0 ≤ u27711 ∧ u27711 ≤ 6) → qI σ24956 α27713 κ ρ → qFr [(58, 11), (58, 12), (64, 7)] [60, 61, 62, 63, 68] σ α σ24956 α27713 → α27713 65 = (α 65) → qBT (qTpp (fun t i o : Int => qClC σ α (x1 + t * x2) (α 65 (i : Int).toNat) (α 65 (o : Int).toNat)) (σ 64 2) u24928 u27711 0) (α27713 68) → qCaN (α27713 60) (α27713 61) (σ24956 58 12) (fun p q => qnF (qTb (α 24)) (α 28) (α 29) (α 31) (α 30) (α 33) (σ 27 6) (σ 27 7) p q (x1 + u24928 * x2)) → qCaN (α27713 62) (α27713 63) (σ24956 58 12) (fun p q => qbs (qhF (α 35) (α 36) (α 37) (α 40) (qcv (α 41)) (qlw (α 22)) p q (x1 + u24928 * x2)) (σ 34 7 : Int).toNat) → qr_W (qe L xs vb) (d + 4) qx_e128 (fun r w' => ∃ σ' α', w' = qw σ' α' κ ρ ∧ qI σ' α' κ ρ ∧ qFr [(58, 11), (58, 12), (64, 7)] [60, 61, 62, 63, 68] σ α σ' α' ∧ σ' 58 12 ≤ σ 58 12 + 6 ∧ σ' 58 12 ≥ σ 58 12 ∧ σ' 64 7 = x3 / x2 ∧ r = none ∧ qTE (fun t i o : Int => qClC σ α (x1 + t * x2) (α 65 (i : Int).toNat) (α 65 (o : Int).toNat)) (σ 64 2) (α' 68) ∧ (∀ c : Nat, c < 496 → α' 61 c ≤ σ' 58 12) ∧ (∀ c : Nat, c < 496 → α' 63 c ≤ σ' 58 12)) (52, ls, [], qw σ24956 α27713 κ ρ, 0, 0) := by
          intro n
          induction n with
          | zero => intro ls u27711 α27713 hm g27706 g27707 g27708 g27709 g27710 hf27717 hI27714 hF27715 hk27716 hx27718 hx27719 hx27720; exact False.elim (by omega)
          | succ n ih27722 =>
            intro ls u27711 α27713 hm g27706 g27707 g27708 g27709 g27710 hf27717 hI27714 hF27715 hk27716 hx27718 hx27719 hx27720
            refine qr_iload 54 rfl g27710 rfl ?_
            refine qr_aload_n 55 rfl g27706 rfl ?_
            refine qr_get 58 rfl rfl rfl (by decide) rfl ?_
            refine qy_v (σ 64 2) ((hG24958.1 64 2 (by decide)).trans ((hk24939).trans rfl)) ?_
            refine qr_icmp_ge 133 61 rfl rfl rfl (qrg hf27717 (by decide) (by decide)) (qrg hz64_2 (by decide) (by decide)) (fun h27723 => ?_) (fun h27723 => ?_)
            · skip
              refine qr_iinc _ 136 rfl g27709 (by decide) rfl rfl ?_
              refine qr_goto 27 rfl rfl ?_
              exact ih24949 _ (u24928 + 1) σ24956 α27713 (by omega) (qm_gk g27706 (by decide) (Or.inl (by decide))) (qm_gk g27707 (by decide) (Or.inl (by decide))) (qm_gk g27708 (by decide) (Or.inl (by decide))) (qm_ge _ _ _) (by omega) hI27714 hF27715 ((hG24958.1 17 5 (by decide)).trans ((hk24933).trans rfl)) ((hG24958.1 17 6 (by decide)).trans ((hk24934).trans rfl)) ((hG24958.1 27 6 (by decide)).trans ((hk24935).trans rfl)) ((hG24958.1 27 7 (by decide)).trans ((hk24936).trans rfl)) ((hG24958.1 34 7 (by decide)).trans ((hk24937).trans rfl)) ((hG24958.1 58 10 (by decide)).trans ((hk24938).trans rfl)) ((hG24958.1 64 2 (by decide)).trans ((hk24939).trans rfl)) ((hG24958.1 64 7 (by decide)).trans ((hk24940).trans rfl)) hk27716 (qTpp_t (I := u27711) (by omega) hx27718) hx27719.1 hx27720.1 (by have hw : σ24956 58 12 = (σ24956 58 12) := rfl; omega) (by have hw : σ24956 58 12 = (σ24956 58 12) := rfl; omega)
            · skip
              refine qr_iconst 62 rfl rfl ?_
              refine qr_istore _ 64 rfl (by decide) rfl rfl ?_
              have hL28044 : ∀ (n : Nat) (ls : qm_L) (u28034 : Int) (α28036 : Nat → Nat → Int), 6 - u28034 < (n : Int) → qm_get ls 0 = some (.ref 64) → qm_get ls 1 = some (.int (qz x1)) → qm_get ls 2 = some (.int (qz x2)) → qm_get ls 4 = some (.int (qz u24928)) → qm_get ls 5 = some (.int (qz u27711)) → qm_get ls 6 = some (.int (qz u28034)) → (0 ≤ u28034 ∧ u28034 ≤ 6) → qI σ24956 α28036 κ ρ → qFr [(58, 11), (58, 12), (64, 7)] [60, 61, 62, 63, 68] σ α σ24956 α28036 → α28036 65 = (α 65) → qBT (qTpp (fun t i o : Int => qClC σ α (x1 + t * x2) (α 65 (i : Int).toNat) (α 65 (o : Int).toNat)) (σ 64 2) u24928 u27711 u28034) (α28036 68) → qCaN (α28036 60) (α28036 61) (σ24956 58 12) (fun p q => qnF (qTb (α 24)) (α 28) (α 29) (α 31) (α 30) (α 33) (σ 27 6) (σ 27 7) p q (x1 + u24928 * x2)) → qCaN (α28036 62) (α28036 63) (σ24956 58 12) (fun p q => qbs (qhF (α 35) (α 36) (α 37) (α 40) (qcv (α 41)) (qlw (α 22)) p q (x1 + u24928 * x2)) (σ 34 7 : Int).toNat) → qr_W (qe L xs vb) (d + 4) qx_e128 (fun r w' => ∃ σ' α', w' = qw σ' α' κ ρ ∧ qI σ' α' κ ρ ∧ qFr [(58, 11), (58, 12), (64, 7)] [60, 61, 62, 63, 68] σ α σ' α' ∧ σ' 58 12 ≤ σ 58 12 + 6 ∧ σ' 58 12 ≥ σ 58 12 ∧ σ' 64 7 = x3 / x2 ∧ r = none ∧ qTE (fun t i o : Int => qClC σ α (x1 + t * x2) (α 65 (i : Int).toNat) (α 65 (o : Int).toNat)) (σ 64 2) (α' 68) ∧ (∀ c : Nat, c < 496 → α' 61 c ≤ σ' 58 12) ∧ (∀ c : Nat, c < 496 → α' 63 c ≤ σ' 58 12)) (64, ls, [], qw σ24956 α28036 κ ρ, 0, 0) := by
                intro n
                induction n with
                | zero => intro ls u28034 α28036 hm g28028 g28029 g28030 g28031 g28032 g28033 hf28040 hI28037 hF28038 hk28039 hx28041 hx28042 hx28043; exact False.elim (by omega)
                | succ n ih28045 =>
                  intro ls u28034 α28036 hm g28028 g28029 g28030 g28031 g28032 g28033 hf28040 hI28037 hF28038 hk28039 hx28041 hx28042 hx28043
                  refine qr_iload 66 rfl g28033 rfl ?_
                  refine qr_aload_n 67 rfl g28028 rfl ?_
                  refine qr_get 70 rfl rfl rfl (by decide) rfl ?_
                  refine qy_v (σ 64 2) ((hG24958.1 64 2 (by decide)).trans ((hk24939).trans rfl)) ?_
                  refine qr_icmp_ge 127 73 rfl rfl rfl (qrg hf28040 (by decide) (by decide)) (qrg hz64_2 (by decide) (by decide)) (fun h28046 => ?_) (fun h28046 => ?_)
                  · skip
                    refine qr_iinc _ 130 rfl g28032 (by decide) rfl rfl ?_
                    refine qr_goto 52 rfl rfl ?_
                    exact ih27722 _ (u27711 + 1) α28036 (by omega) (qm_gk g28028 (by decide) (Or.inl (by decide))) (qm_gk g28029 (by decide) (Or.inl (by decide))) (qm_gk g28030 (by decide) (Or.inl (by decide))) (qm_gk g28031 (by decide) (Or.inr rfl)) (qm_ge _ _ _) (by omega) hI28037 hF28038 hk28039 (qTpp_o (O := u28034) (by omega) hx28041) hx28042 hx28043
                  · skip
                    refine qr_iload 75 rfl g28032 rfl ?_
                    refine qr_iload 77 rfl g28033 rfl ?_
                    refine qr_icmp_eq 121 80 rfl rfl rfl (qrg hf27717 (by decide) (by decide)) (qrg hf28040 (by decide) (by decide)) (fun h28047 => ?_) (fun h28047 => ?_)
                    · skip
                      refine qr_iinc _ 124 rfl g28033 (by decide) rfl rfl ?_
                      refine qr_goto 64 rfl rfl ?_
                      exact ih28045 _ (u28034 + 1) α28036 (by omega) (qm_gk g28028 (by decide) (Or.inl (by decide))) (qm_gk g28029 (by decide) (Or.inl (by decide))) (qm_gk g28030 (by decide) (Or.inl (by decide))) (qm_gk g28031 (by decide) (Or.inl (by decide))) (qm_gk g28032 (by decide) (Or.inr rfl)) (qm_ge _ _ _) (by omega) hI28037 hF28038 hk28039 (qTpp_n (fun hc => hc.1 (by omega)) hx28041) hx28042 hx28043
                    · skip
                      refine qr_aload_n 81 rfl g28028 rfl ?_
                      refine qr_aload_n 82 rfl g28028 rfl ?_
                      refine qr_get 85 rfl rfl rfl (by decide) rfl ?_
                      refine qr_iload 87 rfl g28032 rfl ?_
                      refine qr_iaload 88 rfl rfl (qrgi hf27717 (by decide) (by decide)) (by decide) rfl ?_
                      refine qr_topI (fun v28048 hv28048 => ?_)
                      have hs28049 : 0 ≤ v28048 ∧ v28048 ≤ 31 := by rw [hv28048]; exact hI28037.2.1 65 _ (show _ < 12 from qrgt hf27717 (by decide) (by decide))
                      have hrv28048 : v28048 = (α 65) (u27711 : Int).toNat := hv28048.trans (congrFun hk28039 _)
                      have hs28050 : σ24956 64 2 = (σ 64 2) := (hG24958.1 64 2 (by decide)).trans ((hk24939).trans rfl)
                      refine qr_aload_n 89 rfl g28028 rfl ?_
                      refine qr_get 92 rfl rfl rfl (by decide) rfl ?_
                      refine qr_iload 94 rfl g28033 rfl ?_
                      refine qr_iaload 95 rfl rfl (qrgi hf28040 (by decide) (by decide)) (by decide) rfl ?_
                      refine qr_topI (fun v28051 hv28051 => ?_)
                      have hs28052 : 0 ≤ v28051 ∧ v28051 ≤ 31 := by rw [hv28051]; exact hI28037.2.1 65 _ (show _ < 12 from qrgt hf28040 (by decide) (by decide))
                      have hrv28051 : v28051 = (α 65) (u28034 : Int).toNat := hv28051.trans (congrFun hk28039 _)
                      have hs28053 : σ24956 64 2 = (σ 64 2) := (hG24958.1 64 2 (by decide)).trans ((hk24939).trans rfl)
                      have hs28054 := qI_li hI28037 (u27711) (u28034)
                      have hs28055 : (-9223372036854775808) ≤ σ24956 27 6 ∧ σ24956 27 6 ≤ 9223372036854775807 := hI28037.1 27 6
                      have hs28056 : σ24956 27 6 = (σ 27 6) := (hG24958.1 27 6 (by decide)).trans ((hk24935).trans rfl)
                      have hs28057 : 0 ≤ σ24956 27 7 ∧ σ24956 27 7 ≤ 40 := hI28037.1 27 7
                      have hs28058 : σ24956 27 7 = (σ 27 7) := (hG24958.1 27 7 (by decide)).trans ((hk24936).trans rfl)
                      have hs28059 : 0 ≤ σ24956 34 7 ∧ σ24956 34 7 ≤ 60 := hI28037.1 34 7
                      have hs28060 : σ24956 34 7 = (σ 34 7) := (hG24958.1 34 7 (by decide)).trans ((hk24937).trans rfl)
                      have hs28061 : (-9223372036854775808) ≤ σ24956 58 10 ∧ σ24956 58 10 ≤ 9223372036854775807 := hI28037.1 58 10
                      have hs28062 : σ24956 58 10 = (σ 58 10) := (hG24958.1 58 10 (by decide)).trans ((hk24938).trans rfl)
                      have hs28063 : (-2147483648) ≤ σ24956 58 11 ∧ σ24956 58 11 ≤ 2147483647 := hI28037.1 58 11
                      have hs28064 : (-2147483648) ≤ σ24956 58 12 ∧ σ24956 58 12 ≤ 2147483647 := hI28037.1 58 12
                      refine qr_callN 98 rfl rfl rfl (sf_129_64x (d := d + 0) hI28037 hs28049 hs28052 (by omega) (by rw [hF28038.1 27 6 (by decide), hF28038.1 27 7 (by decide), hF28038.2 24 (by decide), hF28038.2 28 (by decide), hF28038.2 29 (by decide), hF28038.2 30 (by decide), hF28038.2 31 (by decide), hF28038.2 33 (by decide), he24962]; exact hx28042) (by rw [hF28038.1 34 7 (by decide), hF28038.2 22 (by decide), hF28038.2 35 (by decide), hF28038.2 36 (by decide), hF28038.2 37 (by decide), hF28038.2 40 (by decide), hF28038.2 41 (by decide), he24962]; exact hx28043) (qZp_fr hF28038 (by decide) (by decide) p3) ((hF28038.1 58 10 (by decide)).trans p4)) ?_
                      rintro _ _ ⟨α28069, rfl, hI28070, hG28071, v28065, rfl, hv28065, hx28066, hx28067, hx28068⟩
                      have hF28072 : qFr [(58, 11), (58, 12), (64, 7)] [60, 61, 62, 63, 68] σ α σ24956 α28069 := qFr_t hF28038 hG28071 (by decide) (by decide)
                      rw [hF28038.2 24 (by decide), hF28038.2 28 (by decide), hF28038.2 29 (by decide), hF28038.2 30 (by decide), hF28038.2 31 (by decide), hF28038.2 33 (by decide), hF28038.1 27 6 (by decide), hF28038.1 27 7 (by decide)] at hx28067
                      rw [hF28038.2 22 (by decide), hF28038.2 35 (by decide), hF28038.2 36 (by decide), hF28038.2 37 (by decide), hF28038.2 40 (by decide), hF28038.2 41 (by decide), hF28038.1 34 7 (by decide)] at hx28068
                      show qr_W (qe L xs vb) (d + 4) qx_e128 _ (98, _, [.int (qz v28065)], qw σ24956 α28069 κ ρ, 0, 0)
                      rw [qClC_fr hF28038 (by decide) (by decide), he24962, hrv28048, hrv28051] at hx28066
                      rw [he24962] at hx28067
                      rw [he24962] at hx28068
                      refine qr_if_eq 121 101 rfl rfl rfl (qrg hv28065 (by decide) (by decide)) (fun h28073 => ?_) (fun h28073 => ?_)
                      · skip
                        refine qr_iinc _ 124 rfl g28033 (by decide) rfl rfl ?_
                        refine qr_goto 64 rfl rfl ?_
                        exact ih28045 _ (u28034 + 1) α28069 (by omega) (qm_gk g28028 (by decide) (Or.inl (by decide))) (qm_gk g28029 (by decide) (Or.inl (by decide))) (qm_gk g28030 (by decide) (Or.inl (by decide))) (qm_gk g28031 (by decide) (Or.inl (by decide))) (qm_gk g28032 (by decide) (Or.inr rfl)) (qm_ge _ _ _) (by omega) hI28070 hF28072 ((hG28071.2 65 (by decide)).trans hk28039) (by rw [hG28071.2 68 (by decide)]; exact qTpp_n (by rcases hx28066 with hz | hz; (omega); (exact fun hc => hz.2 hc.2)) hx28041) hx28067 hx28068
                      · skip
                        refine qr_aload_n 102 rfl g28028 rfl ?_
                        refine qr_get 105 rfl rfl rfl (by decide) rfl ?_
                        refine qr_iload 107 rfl g28031 rfl ?_
                        refine qr_bipush 109 rfl (by decide) rfl ?_
                        refine qr_imul 110 rfl rfl ?_
                        refine qr_iload 112 rfl g28032 rfl ?_
                        refine qr_iadd 113 rfl rfl ?_
                        refine qr_dup2 114 rfl rfl rfl rfl ?_
                        refine qr_iaload 115 rfl rfl (by omega) (by decide) rfl ?_
                        refine qr_topI (fun v28074 hv28074 => ?_)
                        have hs28075 : (-2147483648) ≤ v28074 ∧ v28074 ≤ 2147483647 := by rw [hv28074]; exact hI28070.2.1 68 _ (show _ < 36 by omega)
                        have hrv28074 : v28074 = (α28069 68) (((u24928 * 6) + u27711) : Int).toNat := hv28074
                        refine qr_iconst 116 rfl rfl ?_
                        refine qr_iload 118 rfl g28033 rfl ?_
                        refine qr_ishl 119 rfl rfl ?_
                        refine qy_shl1E (N := 5) (by omega) (fun v28076 hv28076 hev28076 => ?_)
                        refine qr_ior 120 rfl rfl ?_
                        refine qy_canE (fun v28077 hv28077 hev28077 => ?_)
                        refine qr_iastore 121 rfl (by decide) rfl (by omega) (by decide) rfl ?_
                        refine qy_wA (qw_r α28069 68 (qzu (α28069 68) (((u24928 * 6) + u27711) : Int).toNat v28077)) rfl (fun α28078 e28079 => ?_)
                        have hI28080 : qI σ24956 α28078 κ ρ := by rw [e28079]; exact qI_r hI28070 68 _ rfl (show (-2147483648) ≤ v28077 ∧ v28077 ≤ 2147483647 by omega)
                        have hF28081 : qFr [(58, 11), (58, 12), (64, 7)] [60, 61, 62, 63, 68] σ α σ24956 α28078 := by rw [e28079]; exact qFr_r hF28072 68 _ (by decide)
                        refine qr_iinc _ 124 rfl g28033 (by decide) rfl rfl ?_
                        refine qr_goto 64 rfl rfl ?_
                        exact ih28045 _ (u28034 + 1) α28078 (by omega) (qm_gk g28028 (by decide) (Or.inl (by decide))) (qm_gk g28029 (by decide) (Or.inl (by decide))) (qm_gk g28030 (by decide) (Or.inl (by decide))) (qm_gk g28031 (by decide) (Or.inl (by decide))) (qm_gk g28032 (by decide) (Or.inr rfl)) (qm_ge _ _ _) (by omega) hI28080 hF28081 ((congrFun e28079 65).trans ((qw_r_ne (by decide)).trans ((hG28071.2 65 (by decide)).trans hk28039))) (qTpp_y (r := (α28069 68)) ⟨by omega, by rcases hx28066 with hz | hz; (exact hz.2); (omega)⟩ (by omega) (by omega) (by omega) (((congrFun e28079 68).trans (qw_r_eq.trans (congrArg (fun f => qzu f (((u24928 * 6) + u27711) : Int).toNat v28077) rfl)))) (by rw [qz_val hev28077 (by omega) (qz_or_r _ _), hev28076, show v28074 = (α28069 68) (u24928 * 6 + u27711 : Int).toNat from hv28074]) (by rw [hG28071.2 68 (by decide)]; exact hx28041)) (by rw [show α28078 60 = α28069 60 from ((congrFun e28079 60).trans ((qw_r_ne (by decide)).trans rfl)), show α28078 61 = α28069 61 from ((congrFun e28079 61).trans ((qw_r_ne (by decide)).trans rfl))]; exact hx28067) (by rw [show α28078 62 = α28069 62 from ((congrFun e28079 62).trans ((qw_r_ne (by decide)).trans rfl)), show α28078 63 = α28069 63 from ((congrFun e28079 63).trans ((qw_r_ne (by decide)).trans rfl))]; exact hx28068)
              exact hL28044 ((6 - 0 + 1 : Int)).toNat _ 0 α27713 (by omega) (qm_gk g27706 (by decide) (Or.inl (by decide))) (qm_gk g27707 (by decide) (Or.inl (by decide))) (qm_gk g27708 (by decide) (Or.inl (by decide))) (qm_gk g27709 (by decide) (Or.inl (by decide))) (qm_gk g27710 (by decide) (Or.inr rfl)) (qm_ge _ _ _) (by decide) hI27714 hF27715 hk27716 hx27718 hx27719 hx27720
        exact hL27721 ((6 - 0 + 1 : Int)).toNat _ 0 α24930 (by omega) (qm_gk g24924 (by decide) (Or.inl (by decide))) (qm_gk g24925 (by decide) (Or.inl (by decide))) (qm_gk g24926 (by decide) (Or.inl (by decide))) (qm_gk g24927 (by decide) (Or.inr rfl)) (qm_ge _ _ _) (by decide) hI24957 hF24959 hk24941 hx24943 (qCaN_v hx24944 hw24955) (qCaN_v hx24945 hw24955)
  exact hL24948 ((6 - 0 + 1 : Int)).toNat _ 0 σ3 α8 (by omega) rfl rfl rfl rfl (by decide) hI9 hF11 ((congrFun (congrFun e4 17) 5).trans rfl) ((congrFun (congrFun e4 17) 6).trans rfl) ((congrFun (congrFun e4 27) 6).trans rfl) ((congrFun (congrFun e4 27) 7).trans rfl) ((congrFun (congrFun e4 34) 7).trans rfl) ((congrFun (congrFun e4 58) 10).trans rfl) ((congrFun (congrFun e4 64) 2).trans rfl) ((congrFun (congrFun e4 64) 7).trans rfl) ((hG10.2 65 (by decide)).trans rfl) (qTpp_0 (fun j hj => hx7 j (by omega))) (fun c hc => by rw [hG10.2 61 (by decide)]; have hq := p1 c hc; have hw : σ3 58 12 = (σ 58 12) := (congrFun (congrFun e4 58) 12).trans rfl; omega) (fun c hc => by rw [hG10.2 63 (by decide)]; have hq := p2 c hc; have hw : σ3 58 12 = (σ 58 12) := (congrFun (congrFun e4 58) 12).trans rfl; omega) (by have hw : σ3 58 12 = (σ 58 12) := (congrFun (congrFun e4 58) 12).trans rfl; omega) (by have hw : σ3 58 12 = (σ 58 12) := (congrFun (congrFun e4 58) 12).trans rfl; omega)

set_option maxHeartbeats 4000000 in
set_option maxRecDepth 20000 in
/-- OneRoof$Guests.meetsEarlier -/
theorem sf_132_64x {L : Nat} {xs : Nat → Int} {vb : Bool} {d : Nat} {σ α : Nat → Nat → Int} {κ : Nat → Option Nat} {ρ : Nat} {x1 : Int} {x2 : Int} (hI : qI σ α κ ρ) (r1 : 0 ≤ x1 ∧ x1 ≤ 5) (r2 : 0 ≤ x2 ∧ x2 ≤ 5) (p0 : σ 64 2 ≤ 6) (p1 : 0 ≤ σ 64 7 ∧ σ 64 7 ≤ 99) : qm_T (qe L xs vb) (d + 2) 132 [.ref 64, .int (qz x1), .int (qz x2)] (qw σ α κ ρ) (fun r w' => w' = qw σ α κ ρ ∧ ∃ v : Int, r = some (.int (qz v)) ∧ (0 ≤ v ∧ v ≤ 1) ∧ ((v = 1 ∧ (qAny (fun e : Nat => (e : Int) < x1 ∧ x1 - σ 64 7 ≤ (e : Int) ∧ qbit (α 68 (x1 * 6 + x2 : Int).toNat) (α 69 e) = 1))) ∨ (v = 0 ∧ ¬ (qAny (fun e : Nat => (e : Int) < x1 ∧ x1 - σ 64 7 ≤ (e : Int) ∧ qbit (α 68 (x1 * 6 + x2 : Int).toNat) (α 69 e) = 1))))) := by
  refine qr_start (d := d + 1) qv_e132 (Nat.le_of_ble_eq_true rfl) ?_
  show qr_W (qe L xs vb) (d + 1) qx_e132 _ (0, [(0, .ref 64), (1, .int (qz x1)), (2, .int (qz x2))], [], _, 0, 0)
  have hz64_2 : 0 ≤ σ 64 2 ∧ σ 64 2 ≤ 12 := hI.1 64 2
  have hz64_7 : (-2147483648) ≤ σ 64 7 ∧ σ 64 7 ≤ 2147483647 := hI.1 64 7
  refine qr_iconst 1 rfl rfl ?_
  refine qr_iload_n 2 rfl rfl rfl ?_
  refine qr_aload_n 3 rfl rfl rfl ?_
  refine qr_get 6 rfl rfl rfl (by decide) rfl ?_
  refine qr_isub 7 rfl rfl ?_
  refine qr_callN 10 rfl rfl rfl (sf_30 (d := d + 0) hI (by decide) (by omega)) ?_
  rintro _ _ ⟨rfl, v1, rfl, hv1, hp2⟩
  show qr_W (qe L xs vb) (d + 1) qx_e132 _ (10, _, [.int (qz v1)], qw σ α κ ρ, 0, 0)
  refine qr_istore_n _ 11 rfl (by decide) rfl rfl ?_
  have hL51 : ∀ (n : Nat) (ls : qm_L) (u47 : Int), 6 - u47 < (n : Int) → qm_get ls 0 = some (.ref 64) → qm_get ls 1 = some (.int (qz x1)) → qm_get ls 2 = some (.int (qz x2)) → qm_get ls 3 = some (.int (qz u47)) → (0 ≤ u47 ∧ u47 ≤ 5) → (∀ e : Nat, x1 - σ 64 7 ≤ (e : Int) → (e : Int) < u47 → ¬ qbit (α 68 (x1 * 6 + x2 : Int).toNat) (α 69 e) = 1) → v1 ≤ u47 → qr_W (qe L xs vb) (d + 1) qx_e132 (fun r w' => w' = qw σ α κ ρ ∧ ∃ v : Int, r = some (.int (qz v)) ∧ (0 ≤ v ∧ v ≤ 1) ∧ ((v = 1 ∧ (qAny (fun e : Nat => (e : Int) < x1 ∧ x1 - σ 64 7 ≤ (e : Int) ∧ qbit (α 68 (x1 * 6 + x2 : Int).toNat) (α 69 e) = 1))) ∨ (v = 0 ∧ ¬ (qAny (fun e : Nat => (e : Int) < x1 ∧ x1 - σ 64 7 ≤ (e : Int) ∧ qbit (α 68 (x1 * 6 + x2 : Int).toNat) (α 69 e) = 1))))) (11, ls, [], qw σ α κ ρ, 0, 0) := by
    intro n
    induction n with
    | zero => intro ls u47 hm g43 g44 g45 g46 hf48 hx49 hx50; exact False.elim (by omega)
    | succ n ih52 =>
      intro ls u47 hm g43 g44 g45 g46 hf48 hx49 hx50
      refine qr_iload_n 12 rfl g46 rfl ?_
      refine qr_iload_n 13 rfl g44 rfl ?_
      refine qr_icmp_ge 48 16 rfl rfl rfl (qrg hf48 (by decide) (by decide)) (qrg r1 (by decide) (by decide)) (fun h53 => ?_) (fun h53 => ?_)
      · skip
        refine qr_iconst 49 rfl rfl ?_
        refine qr_retZ rfl rfl (Or.inl rfl) (by decide) (by decide) ?_
        exact ⟨rfl, 0, rfl, (by decide), (Or.inr ⟨rfl, fun hz => by obtain ⟨e, h1, h2, h3⟩ := hz; exact hx49 e h2 (by omega) h3⟩)⟩
      · skip
        refine qr_aload_n 17 rfl g43 rfl ?_
        refine qr_get 20 rfl rfl rfl (by decide) rfl ?_
        refine qr_iload_n 21 rfl g44 rfl ?_
        refine qr_bipush 23 rfl (by decide) rfl ?_
        refine qr_imul 24 rfl rfl ?_
        refine qr_iload_n 25 rfl g45 rfl ?_
        refine qr_iadd 26 rfl rfl ?_
        refine qr_iaload 27 rfl rfl (by omega) (by decide) rfl ?_
        refine qr_topI (fun v54 hv54 => ?_)
        have hs55 : (-2147483648) ≤ v54 ∧ v54 ≤ 2147483647 := by rw [hv54]; exact hI.2.1 68 _ (show _ < 36 by omega)
        refine qr_i2l 28 rfl hs55 rfl ?_
        refine qr_aload_n 29 rfl g43 rfl ?_
        refine qr_get 32 rfl rfl rfl (by decide) rfl ?_
        refine qr_iload_n 33 rfl g46 rfl ?_
        refine qr_iaload 34 rfl rfl (qrgi hf48 (by decide) (by decide)) (by decide) rfl ?_
        refine qr_topI (fun v56 hv56 => ?_)
        have hs57 : 0 ≤ v56 ∧ v56 ≤ 11 := by rw [hv56]; exact hI.2.1 69 _ (show _ < 6 from qrgt hf48 (by decide) (by decide))
        refine qr_callN 37 rfl rfl rfl (sf_50b (d := d + 0) hI (qrg hs55 (by decide) (by decide)) (qrg hs57 (by decide) (by decide))) ?_
        rintro _ _ ⟨rfl, v58, rfl, hv58, hp59⟩
        show qr_W (qe L xs vb) (d + 1) qx_e132 _ (37, _, [.int (qz v58)], qw σ α κ ρ, 0, 0)
        refine qr_if_eq 42 40 rfl rfl rfl (qrg hv58 (by decide) (by decide)) (fun h60 => ?_) (fun h60 => ?_)
        · skip
          refine qr_iinc _ 45 rfl g46 (by decide) rfl rfl ?_
          refine qr_goto 11 rfl rfl ?_
          exact ih52 _ (u47 + 1) (by omega) (qm_gk g43 (by decide) (Or.inl (by decide))) (qm_gk g44 (by decide) (Or.inl (by decide))) (qm_gk g45 (by decide) (Or.inr rfl)) (qm_ge _ _ _) (by omega) (fun e h1 h2 hc => by by_cases c : (e : Int) < u47; (exact hx49 e h1 c hc); (rw [show e = (u47 : Int).toNat by omega, ← hv54, ← hv56] at hc; omega)) (by omega)
        · skip
          refine qr_iconst 41 rfl rfl ?_
          refine qr_retZ rfl rfl (Or.inr rfl) (by decide) (by decide) ?_
          exact ⟨rfl, 1, rfl, (by decide), (Or.inl ⟨rfl, (u47 : Int).toNat, by omega, by omega, by rw [← hv54, ← hv56]; omega⟩)⟩
  exact hL51 ((6 - v1 + 1 : Int)).toNat _ v1 (by omega) rfl rfl rfl rfl (by omega) (fun e h1 h2 => False.elim (by omega)) (by omega)

set_option maxHeartbeats 4000000 in
set_option maxRecDepth 20000 in
/-- OneRoof$Guests.depart -/
theorem sf_131_64x6 {L : Nat} {xs : Nat → Int} {vb : Bool} {d : Nat} {σ α : Nat → Nat → Int} {κ : Nat → Option Nat} {ρ : Nat} {x2 : Int} {x3 : Int} {os : List Int} (hI : qI σ α κ ρ) (r2 : (-2147483648) ≤ x2 ∧ x2 ≤ 2147483647) (r3 : 0 ≤ x3 ∧ x3 ≤ 999999) (p0 : σ 64 2 ≤ 6) (p1 : 0 ≤ σ 64 7 ∧ σ 64 7 ≤ 99) (p2 : 6 ≤ σ 64 2) (p3 : 0 ≤ 6) (p4 : qLs (α 69) 6 os) (p5 : qGo x2 os) (p6 : x3 = qdg os) : qm_T (qe L xs vb) (d + 1) 131 [.ref 64, .int (qz 6), .int (qz x2), .int (qz x3)] (qw σ α κ ρ) (fun r w' => ∃ α', w' = qw σ α' κ ρ ∧ qI σ α' κ ρ ∧ qFr [] [69] σ α σ α' ∧ ∃ v : Int, r = some (.int (qz v)) ∧ ((-2147483648) ≤ v ∧ v ≤ 2147483647) ∧ v = qdp (qLB (fun t i o : Int => qbit (α 68 (t * 6 + i : Int).toNat) o = 1) (σ 64 7)) (σ 64 2 : Int).toNat (σ 64 2 - 6 : Int).toNat os ∧ (∀ j : Nat, (j : Int) < 6 → α' 69 j = α 69 j)) := by
  refine qr_start (d := d + 0) qv_e131 (Nat.le_of_ble_eq_true rfl) ?_
  show qr_W (qe L xs vb) (d + 0) qx_e131 _ (0, [(0, .ref 64), (1, .int (qz 6)), (2, .int (qz x2)), (3, .int (qz x3))], [], _, 0, 0)
  have hF0 := qFr_rf [] [69] σ α
  have hz64_2 : 0 ≤ σ 64 2 ∧ σ 64 2 ≤ 12 := hI.1 64 2
  have hz64_7 : (-2147483648) ≤ σ 64 7 ∧ σ 64 7 ≤ 2147483647 := hI.1 64 7
  refine qr_iload_n 1 rfl rfl rfl ?_
  refine qr_aload_n 2 rfl rfl rfl ?_
  refine qr_get 5 rfl rfl rfl (by decide) rfl ?_
  refine qr_icmp_ge 14 8 rfl rfl rfl (by decide) (qrg hz64_2 (by decide) (by decide)) (fun h1 => ?_) (fun h => False.elim (by omega))
  refine qr_iload_n 15 rfl rfl rfl ?_
  refine qr_retI rfl rfl (by decide) (by decide) ?_
  exact ⟨_, rfl, hI, hF0, x3, rfl, (qrg r3 (by decide) (by decide)), (by rw [show (σ 64 2 - 6 : Int).toNat = 0 by omega]; exact p6), (fun _ _ => rfl)⟩

set_option maxHeartbeats 4000000 in
set_option maxRecDepth 20000 in
/-- OneRoof$Guests.depart -/
theorem sf_131_64x5 {L : Nat} {xs : Nat → Int} {vb : Bool} {d : Nat} {σ α : Nat → Nat → Int} {κ : Nat → Option Nat} {ρ : Nat} {x2 : Int} {x3 : Int} {os : List Int} (hI : qI σ α κ ρ) (r2 : (-2147483648) ≤ x2 ∧ x2 ≤ 2147483647) (r3 : 0 ≤ x3 ∧ x3 ≤ 99999) (p0 : σ 64 2 ≤ 6) (p1 : 0 ≤ σ 64 7 ∧ σ 64 7 ≤ 99) (p2 : 5 ≤ σ 64 2) (p3 : 0 ≤ 5) (p4 : qLs (α 69) 5 os) (p5 : qGo x2 os) (p6 : x3 = qdg os) : qm_T (qe L xs vb) (d + 3) 131 [.ref 64, .int (qz 5), .int (qz x2), .int (qz x3)] (qw σ α κ ρ) (fun r w' => ∃ α', w' = qw σ α' κ ρ ∧ qI σ α' κ ρ ∧ qFr [] [69] σ α σ α' ∧ ∃ v : Int, r = some (.int (qz v)) ∧ ((-2147483648) ≤ v ∧ v ≤ 2147483647) ∧ v = qdp (qLB (fun t i o : Int => qbit (α 68 (t * 6 + i : Int).toNat) o = 1) (σ 64 7)) (σ 64 2 : Int).toNat (σ 64 2 - 5 : Int).toNat os ∧ (∀ j : Nat, (j : Int) < 5 → α' 69 j = α 69 j)) := by
  refine qr_start (d := d + 2) qv_e131 (Nat.le_of_ble_eq_true rfl) ?_
  show qr_W (qe L xs vb) (d + 2) qx_e131 _ (0, [(0, .ref 64), (1, .int (qz 5)), (2, .int (qz x2)), (3, .int (qz x3))], [], _, 0, 0)
  have hF0 := qFr_rf [] [69] σ α
  have hz64_2 : 0 ≤ σ 64 2 ∧ σ 64 2 ≤ 12 := hI.1 64 2
  have hz64_7 : (-2147483648) ≤ σ 64 7 ∧ σ 64 7 ≤ 2147483647 := hI.1 64 7
  refine qr_iload_n 1 rfl rfl rfl ?_
  refine qr_aload_n 2 rfl rfl rfl ?_
  refine qr_get 5 rfl rfl rfl (by decide) rfl ?_
  refine qr_icmp_ge 14 8 rfl rfl rfl (by decide) (qrg hz64_2 (by decide) (by decide)) (fun h1 => ?_) (fun h1 => ?_)
  · skip
    refine qr_iload_n 15 rfl rfl rfl ?_
    refine qr_retI rfl rfl (by decide) (by decide) ?_
    exact ⟨_, rfl, hI, hF0, x3, rfl, (qrg r3 (by decide) (by decide)), (by rw [show (σ 64 2 - 5 : Int).toNat = 0 by omega]; exact p6), (fun _ _ => rfl)⟩
  · skip
    refine qr_iload_n 9 rfl rfl rfl ?_
    refine qr_bipush 11 rfl (by decide) rfl ?_
    refine qr_icmp_lt 16 14 rfl rfl rfl (by decide) (by decide) (fun h2 => ?_) (fun h => False.elim (by omega))
    refine qr_iconst 17 rfl rfl ?_
    refine qr_istore _ 19 rfl (by decide) rfl rfl ?_
    have hL234 : ∀ (n : Nat) (ls : qm_L) (u224 : Int) (α226 : Nat → Nat → Int), 6 - u224 < (n : Int) → qm_get ls 0 = some (.ref 64) → qm_get ls 1 = some (.int (qz 5)) → qm_get ls 2 = some (.int (qz x2)) → qm_get ls 3 = some (.int (qz x3)) → qm_get ls 4 = some (.int (qz u224)) → (0 ≤ u224 ∧ u224 ≤ 6) → qI σ α226 κ ρ → qFr [] [69] σ α σ α226 → α226 68 = (α 68) → (∀ j : Nat, (j : Int) < 5 → α226 69 j = α 69 j) → qfj (qdF (qLB (fun t i o : Int => qbit (α 68 (t * 6 + i : Int).toNat) o = 1) (σ 64 7)) (σ 64 2 : Int).toNat (σ 64 2 - 6 : Int).toNat os) (u224 : Int).toNat = -2 → u224 ≤ σ 64 2 → qr_W (qe L xs vb) (d + 2) qx_e131 (fun r w' => ∃ α', w' = qw σ α' κ ρ ∧ qI σ α' κ ρ ∧ qFr [] [69] σ α σ α' ∧ ∃ v : Int, r = some (.int (qz v)) ∧ ((-2147483648) ≤ v ∧ v ≤ 2147483647) ∧ v = qdp (qLB (fun t i o : Int => qbit (α 68 (t * 6 + i : Int).toNat) o = 1) (σ 64 7)) (σ 64 2 : Int).toNat (σ 64 2 - 5 : Int).toNat os ∧ (∀ j : Nat, (j : Int) < 5 → α' 69 j = α 69 j)) (19, ls, [], qw σ α226 κ ρ, 0, 0) := by
      intro n
      induction n with
      | zero => intro ls u224 α226 hm g219 g220 g221 g222 g223 hf230 hI227 hF228 hk229 hx231 hx232 hx233; exact False.elim (by omega)
      | succ n ih235 =>
        intro ls u224 α226 hm g219 g220 g221 g222 g223 hf230 hI227 hF228 hk229 hx231 hx232 hx233
        refine qr_iload 21 rfl g223 rfl ?_
        refine qr_aload_n 22 rfl g219 rfl ?_
        refine qr_get 25 rfl rfl rfl (by decide) rfl ?_
        refine qr_icmp_ge 99 28 rfl rfl rfl (qrg hf230 (by decide) (by decide)) (qrg hz64_2 (by decide) (by decide)) (fun h236 => ?_) (fun h236 => ?_)
        · skip
          refine qr_bipush 101 rfl (by decide) rfl ?_
          refine qr_retI rfl rfl (by decide) (by decide) ?_
          exact ⟨_, rfl, hI227, hF228, (-2), rfl, (by decide), (by rw [(qdp_s (k := (σ 64 2 - 6 : Int).toNat) (by omega))]; have hz := hx232; rw [show u224 = σ 64 2 by omega] at hz; exact hz.symm), hx231⟩
        · skip
          refine qr_iload_n 29 rfl g221 rfl ?_
          refine qr_i2l 30 rfl r2 rfl ?_
          refine qr_iload 32 rfl g223 rfl ?_
          refine qr_callN 35 rfl rfl rfl (sf_50b (d := d + 1) hI227 (qrg r2 (by decide) (by decide)) (qrg hf230 (by decide) (by decide))) ?_
          rintro _ _ ⟨rfl, v237, rfl, hv237, hp238⟩
          show qr_W (qe L xs vb) (d + 2) qx_e131 _ (35, _, [.int (qz v237)], qw σ α226 κ ρ, 0, 0)
          refine qr_if_ne 93 38 rfl rfl rfl (qrg hv237 (by decide) (by decide)) (fun h239 => ?_) (fun h239 => ?_)
          · skip
            refine qr_iinc _ 96 rfl g223 (by decide) rfl rfl ?_
            refine qr_goto 19 rfl rfl ?_
            exact ih235 _ (u224 + 1) α226 (by omega) (qm_gk g219 (by decide) (Or.inl (by decide))) (qm_gk g220 (by decide) (Or.inl (by decide))) (qm_gk g221 (by decide) (Or.inl (by decide))) (qm_gk g222 (by decide) (Or.inr rfl)) (qm_ge _ _ _) (by omega) hI227 hF228 hk229 hx231 (qfj_go (by omega) hx232 (qdF_b (Or.inl ((p5 u224 (by omega) (by omega)).mp (by have hq := qbit_qbi x2 (i := u224) (by omega); omega))))) (by omega)
          · skip
            refine qr_aload_n 39 rfl g219 rfl ?_
            refine qr_iload_n 40 rfl g220 rfl ?_
            refine qr_iload 42 rfl g223 rfl ?_
            have hs240 : 0 ≤ σ 64 2 ∧ σ 64 2 ≤ 12 := hI227.1 64 2
            have hs241 : (-2147483648) ≤ σ 64 7 ∧ σ 64 7 ≤ 2147483647 := hI227.1 64 7
            refine qr_callN 45 rfl rfl rfl (sf_132_64x (d := d + 0) hI227 (by decide) (by omega) (by omega) (by omega)) ?_
            rintro _ _ ⟨rfl, v242, rfl, hv242, hx243⟩
            rw [hF228.2 68 (by decide)] at hx243
            show qr_W (qe L xs vb) (d + 2) qx_e131 _ (45, _, [.int (qz v242)], qw σ α226 κ ρ, 0, 0)
            refine qr_if_eq 51 48 rfl rfl rfl (qrg hv242 (by decide) (by decide)) (fun h245 => ?_) (fun h245 => ?_)
            · skip
              refine qr_aload_n 52 rfl g219 rfl ?_
              refine qr_get 55 rfl rfl rfl (by decide) rfl ?_
              refine qr_iload_n 56 rfl g220 rfl ?_
              refine qr_iload 58 rfl g223 rfl ?_
              refine qr_iastore 59 rfl (by decide) rfl (by decide) (by decide) rfl ?_
              refine qy_wA (qw_r α226 69 (qzu (α226 69) (5 : Int).toNat u224)) rfl (fun α246 e247 => ?_)
              have hI248 : qI σ α246 κ ρ := by rw [e247]; exact qI_r hI227 69 _ rfl (show 0 ≤ u224 ∧ u224 ≤ 11 by omega)
              have hF249 : qFr [] [69] σ α σ α246 := by rw [e247]; exact qFr_r hF228 69 _ (by decide)
              refine qr_aload_n 60 rfl g219 rfl ?_
              refine qr_iload_n 61 rfl g220 rfl ?_
              refine qr_iconst 62 rfl rfl ?_
              refine qr_iadd 63 rfl rfl ?_
              refine qy_v 6 rfl ?_
              refine qr_iload_n 64 rfl g221 rfl ?_
              refine qr_iconst 65 rfl rfl ?_
              refine qr_iload 67 rfl g223 rfl ?_
              refine qr_ishl 68 rfl rfl ?_
              refine qy_shl1E (N := 5) (by omega) (fun v250 hv250 hev250 => ?_)
              refine qr_ior 69 rfl rfl ?_
              refine qy_canE (fun v251 hv251 hev251 => ?_)
              refine qr_bipush 71 rfl (by decide) rfl ?_
              refine qr_iload_n 72 rfl g222 rfl ?_
              refine qr_imul 73 rfl rfl ?_
              refine qr_iload 75 rfl g223 rfl ?_
              refine qr_iadd 76 rfl rfl ?_
              refine qr_iconst 77 rfl rfl ?_
              refine qr_iadd 78 rfl rfl ?_
              have hs252 : 0 ≤ σ 64 2 ∧ σ 64 2 ≤ 12 := hI248.1 64 2
              have hs253 : (-2147483648) ≤ σ 64 7 ∧ σ 64 7 ≤ 2147483647 := hI248.1 64 7
              refine qr_callN 81 rfl rfl rfl (sf_131_64x6 (d := d + 1) hI248 hv251 (by omega) (by omega) (by omega) (by omega) (by omega) (by have hq := qLs_nx (qLs_ag hx231 p4) (by omega) (((congrFun e247 69).trans (qw_r_eq.trans (congrArg (fun f => qzu f (5 : Int).toNat u224) rfl)))); exact hq) (qGo_app p5 (by omega) (by rw [qz_val hev251 (by omega) (qz_or_r _ _), hev250])) (by rw [qdg_app, ← p6])) ?_
              rintro _ _ ⟨α257, rfl, hI258, hG259, v254, rfl, hv254, hx255, hx256⟩
              have hF260 : qFr [] [69] σ α σ α257 := qFr_t hF249 hG259 (by decide) (by decide)
              rw [hF249.2 68 (by decide)] at hx255
              show qr_W (qe L xs vb) (d + 2) qx_e131 _ (81, _, [.int (qz v254)], qw σ α257 κ ρ, 0, 0)
              refine qr_istore _ 83 rfl (by decide) rfl rfl ?_
              refine qr_iload 85 rfl (qm_ge _ _ _) rfl ?_
              refine qr_bipush 87 rfl (by decide) rfl ?_
              refine qr_icmp_eq 93 90 rfl rfl rfl hv254 (by decide) (fun h261 => ?_) (fun h261 => ?_)
              · skip
                refine qr_iinc _ 96 rfl (qm_gk g223 (by decide) (Or.inr rfl)) (by decide) rfl rfl ?_
                refine qr_goto 19 rfl rfl ?_
                exact ih235 _ (u224 + 1) α257 (by omega) (qm_gk (qm_gk g219 (by decide) (Or.inl (by decide))) (by decide) (Or.inl (by decide))) (qm_gk (qm_gk g220 (by decide) (Or.inl (by decide))) (by decide) (Or.inl (by decide))) (qm_gk (qm_gk g221 (by decide) (Or.inl (by decide))) (by decide) (Or.inl (by decide))) (qm_gk (qm_gk g222 (by decide) (Or.inl (by decide))) (by decide) (Or.inr rfl)) (qm_ge _ _ _) (by omega) hI258 hF260 ((hG259.2 68 (by decide)).trans ((congrFun e247 68).trans ((qw_r_ne (by decide)).trans hk229))) (fun j hj => (hx256 j (by omega)).trans ((qLs_kp (t := 5) (by omega) (((congrFun e247 69).trans (qw_r_eq.trans (congrArg (fun f => qzu f (5 : Int).toNat u224) rfl)))) j hj).trans (hx231 j hj))) (qfj_go (by omega) hx232 (by rw [qdF_n (fun hb => by rcases hx243 with hz | hz; (omega); (exact hz.2 ((qLB_of (t := 5) (i := u224) (qLs_ag hx231 p4) (fun hm => absurd ((p5 u224 (by omega) (by omega)).mpr hm) (by have hq := qbit_qbi x2 (i := u224) (by omega); omega))).mp hb))), ← hx255]; omega)) (by omega)
              · skip
                refine qr_iload 92 rfl (qm_ge _ _ _) rfl ?_
                refine qr_retI rfl rfl (by decide) (by decide) ?_
                exact ⟨_, rfl, hI258, hF260, v254, rfl, hv254, (by rw [(qdp_s (k := (σ 64 2 - 6 : Int).toNat) (by omega))]; exact qfj_hit (i := u224) (by omega) (by omega) hx232 (by rw [qdF_n (fun hb => by rcases hx243 with hz | hz; (omega); (exact hz.2 ((qLB_of (t := 5) (i := u224) (qLs_ag hx231 p4) (fun hm => absurd ((p5 u224 (by omega) (by omega)).mpr hm) (by have hq := qbit_qbi x2 (i := u224) (by omega); omega))).mp hb)))]; exact hx255) (by omega)), (fun j hj => (hx256 j (by omega)).trans ((qLs_kp (t := 5) (by omega) (((congrFun e247 69).trans (qw_r_eq.trans (congrArg (fun f => qzu f (5 : Int).toNat u224) rfl)))) j hj).trans (hx231 j hj)))⟩
            · skip
              refine qr_goto 93 rfl rfl ?_
              refine qr_iinc _ 96 rfl g223 (by decide) rfl rfl ?_
              refine qr_goto 19 rfl rfl ?_
              exact ih235 _ (u224 + 1) α226 (by omega) (qm_gk g219 (by decide) (Or.inl (by decide))) (qm_gk g220 (by decide) (Or.inl (by decide))) (qm_gk g221 (by decide) (Or.inl (by decide))) (qm_gk g222 (by decide) (Or.inr rfl)) (qm_ge _ _ _) (by omega) hI227 hF228 hk229 hx231 (qfj_go (by omega) hx232 (qdF_b ((qLB_of (t := 5) (i := u224) (qLs_ag hx231 p4) (fun hm => absurd ((p5 u224 (by omega) (by omega)).mpr hm) (by have hq := qbit_qbi x2 (i := u224) (by omega); omega))).mpr (by rcases hx243 with hz | hz; (exact hz.2); (omega))))) (by omega)
    exact hL234 ((6 - 0 + 1 : Int)).toNat _ 0 α (by omega) rfl rfl rfl rfl rfl (by decide) hI hF0 rfl (fun _ _ => rfl) rfl (by omega)

set_option maxHeartbeats 4000000 in
set_option maxRecDepth 20000 in
/-- OneRoof$Guests.depart -/
theorem sf_131_64x4 {L : Nat} {xs : Nat → Int} {vb : Bool} {d : Nat} {σ α : Nat → Nat → Int} {κ : Nat → Option Nat} {ρ : Nat} {x2 : Int} {x3 : Int} {os : List Int} (hI : qI σ α κ ρ) (r2 : (-2147483648) ≤ x2 ∧ x2 ≤ 2147483647) (r3 : 0 ≤ x3 ∧ x3 ≤ 9999) (p0 : σ 64 2 ≤ 6) (p1 : 0 ≤ σ 64 7 ∧ σ 64 7 ≤ 99) (p2 : 4 ≤ σ 64 2) (p3 : 0 ≤ 4) (p4 : qLs (α 69) 4 os) (p5 : qGo x2 os) (p6 : x3 = qdg os) : qm_T (qe L xs vb) (d + 4) 131 [.ref 64, .int (qz 4), .int (qz x2), .int (qz x3)] (qw σ α κ ρ) (fun r w' => ∃ α', w' = qw σ α' κ ρ ∧ qI σ α' κ ρ ∧ qFr [] [69] σ α σ α' ∧ ∃ v : Int, r = some (.int (qz v)) ∧ ((-2147483648) ≤ v ∧ v ≤ 2147483647) ∧ v = qdp (qLB (fun t i o : Int => qbit (α 68 (t * 6 + i : Int).toNat) o = 1) (σ 64 7)) (σ 64 2 : Int).toNat (σ 64 2 - 4 : Int).toNat os ∧ (∀ j : Nat, (j : Int) < 4 → α' 69 j = α 69 j)) := by
  refine qr_start (d := d + 3) qv_e131 (Nat.le_of_ble_eq_true rfl) ?_
  show qr_W (qe L xs vb) (d + 3) qx_e131 _ (0, [(0, .ref 64), (1, .int (qz 4)), (2, .int (qz x2)), (3, .int (qz x3))], [], _, 0, 0)
  have hF0 := qFr_rf [] [69] σ α
  have hz64_2 : 0 ≤ σ 64 2 ∧ σ 64 2 ≤ 12 := hI.1 64 2
  have hz64_7 : (-2147483648) ≤ σ 64 7 ∧ σ 64 7 ≤ 2147483647 := hI.1 64 7
  refine qr_iload_n 1 rfl rfl rfl ?_
  refine qr_aload_n 2 rfl rfl rfl ?_
  refine qr_get 5 rfl rfl rfl (by decide) rfl ?_
  refine qr_icmp_ge 14 8 rfl rfl rfl (by decide) (qrg hz64_2 (by decide) (by decide)) (fun h1 => ?_) (fun h1 => ?_)
  · skip
    refine qr_iload_n 15 rfl rfl rfl ?_
    refine qr_retI rfl rfl (by decide) (by decide) ?_
    exact ⟨_, rfl, hI, hF0, x3, rfl, (qrg r3 (by decide) (by decide)), (by rw [show (σ 64 2 - 4 : Int).toNat = 0 by omega]; exact p6), (fun _ _ => rfl)⟩
  · skip
    refine qr_iload_n 9 rfl rfl rfl ?_
    refine qr_bipush 11 rfl (by decide) rfl ?_
    refine qr_icmp_lt 16 14 rfl rfl rfl (by decide) (by decide) (fun h2 => ?_) (fun h => False.elim (by omega))
    refine qr_iconst 17 rfl rfl ?_
    refine qr_istore _ 19 rfl (by decide) rfl rfl ?_
    have hL234 : ∀ (n : Nat) (ls : qm_L) (u224 : Int) (α226 : Nat → Nat → Int), 6 - u224 < (n : Int) → qm_get ls 0 = some (.ref 64) → qm_get ls 1 = some (.int (qz 4)) → qm_get ls 2 = some (.int (qz x2)) → qm_get ls 3 = some (.int (qz x3)) → qm_get ls 4 = some (.int (qz u224)) → (0 ≤ u224 ∧ u224 ≤ 6) → qI σ α226 κ ρ → qFr [] [69] σ α σ α226 → α226 68 = (α 68) → (∀ j : Nat, (j : Int) < 4 → α226 69 j = α 69 j) → qfj (qdF (qLB (fun t i o : Int => qbit (α 68 (t * 6 + i : Int).toNat) o = 1) (σ 64 7)) (σ 64 2 : Int).toNat (σ 64 2 - 5 : Int).toNat os) (u224 : Int).toNat = -2 → u224 ≤ σ 64 2 → qr_W (qe L xs vb) (d + 3) qx_e131 (fun r w' => ∃ α', w' = qw σ α' κ ρ ∧ qI σ α' κ ρ ∧ qFr [] [69] σ α σ α' ∧ ∃ v : Int, r = some (.int (qz v)) ∧ ((-2147483648) ≤ v ∧ v ≤ 2147483647) ∧ v = qdp (qLB (fun t i o : Int => qbit (α 68 (t * 6 + i : Int).toNat) o = 1) (σ 64 7)) (σ 64 2 : Int).toNat (σ 64 2 - 4 : Int).toNat os ∧ (∀ j : Nat, (j : Int) < 4 → α' 69 j = α 69 j)) (19, ls, [], qw σ α226 κ ρ, 0, 0) := by
      intro n
      induction n with
      | zero => intro ls u224 α226 hm g219 g220 g221 g222 g223 hf230 hI227 hF228 hk229 hx231 hx232 hx233; exact False.elim (by omega)
      | succ n ih235 =>
        intro ls u224 α226 hm g219 g220 g221 g222 g223 hf230 hI227 hF228 hk229 hx231 hx232 hx233
        refine qr_iload 21 rfl g223 rfl ?_
        refine qr_aload_n 22 rfl g219 rfl ?_
        refine qr_get 25 rfl rfl rfl (by decide) rfl ?_
        refine qr_icmp_ge 99 28 rfl rfl rfl (qrg hf230 (by decide) (by decide)) (qrg hz64_2 (by decide) (by decide)) (fun h236 => ?_) (fun h236 => ?_)
        · skip
          refine qr_bipush 101 rfl (by decide) rfl ?_
          refine qr_retI rfl rfl (by decide) (by decide) ?_
          exact ⟨_, rfl, hI227, hF228, (-2), rfl, (by decide), (by rw [(qdp_s (k := (σ 64 2 - 5 : Int).toNat) (by omega))]; have hz := hx232; rw [show u224 = σ 64 2 by omega] at hz; exact hz.symm), hx231⟩
        · skip
          refine qr_iload_n 29 rfl g221 rfl ?_
          refine qr_i2l 30 rfl r2 rfl ?_
          refine qr_iload 32 rfl g223 rfl ?_
          refine qr_callN 35 rfl rfl rfl (sf_50b (d := d + 2) hI227 (qrg r2 (by decide) (by decide)) (qrg hf230 (by decide) (by decide))) ?_
          rintro _ _ ⟨rfl, v237, rfl, hv237, hp238⟩
          show qr_W (qe L xs vb) (d + 3) qx_e131 _ (35, _, [.int (qz v237)], qw σ α226 κ ρ, 0, 0)
          refine qr_if_ne 93 38 rfl rfl rfl (qrg hv237 (by decide) (by decide)) (fun h239 => ?_) (fun h239 => ?_)
          · skip
            refine qr_iinc _ 96 rfl g223 (by decide) rfl rfl ?_
            refine qr_goto 19 rfl rfl ?_
            exact ih235 _ (u224 + 1) α226 (by omega) (qm_gk g219 (by decide) (Or.inl (by decide))) (qm_gk g220 (by decide) (Or.inl (by decide))) (qm_gk g221 (by decide) (Or.inl (by decide))) (qm_gk g222 (by decide) (Or.inr rfl)) (qm_ge _ _ _) (by omega) hI227 hF228 hk229 hx231 (qfj_go (by omega) hx232 (qdF_b (Or.inl ((p5 u224 (by omega) (by omega)).mp (by have hq := qbit_qbi x2 (i := u224) (by omega); omega))))) (by omega)
          · skip
            refine qr_aload_n 39 rfl g219 rfl ?_
            refine qr_iload_n 40 rfl g220 rfl ?_
            refine qr_iload 42 rfl g223 rfl ?_
            have hs240 : 0 ≤ σ 64 2 ∧ σ 64 2 ≤ 12 := hI227.1 64 2
            have hs241 : (-2147483648) ≤ σ 64 7 ∧ σ 64 7 ≤ 2147483647 := hI227.1 64 7
            refine qr_callN 45 rfl rfl rfl (sf_132_64x (d := d + 1) hI227 (by decide) (by omega) (by omega) (by omega)) ?_
            rintro _ _ ⟨rfl, v242, rfl, hv242, hx243⟩
            rw [hF228.2 68 (by decide)] at hx243
            show qr_W (qe L xs vb) (d + 3) qx_e131 _ (45, _, [.int (qz v242)], qw σ α226 κ ρ, 0, 0)
            refine qr_if_eq 51 48 rfl rfl rfl (qrg hv242 (by decide) (by decide)) (fun h245 => ?_) (fun h245 => ?_)
            · skip
              refine qr_aload_n 52 rfl g219 rfl ?_
              refine qr_get 55 rfl rfl rfl (by decide) rfl ?_
              refine qr_iload_n 56 rfl g220 rfl ?_
              refine qr_iload 58 rfl g223 rfl ?_
              refine qr_iastore 59 rfl (by decide) rfl (by decide) (by decide) rfl ?_
              refine qy_wA (qw_r α226 69 (qzu (α226 69) (4 : Int).toNat u224)) rfl (fun α246 e247 => ?_)
              have hI248 : qI σ α246 κ ρ := by rw [e247]; exact qI_r hI227 69 _ rfl (show 0 ≤ u224 ∧ u224 ≤ 11 by omega)
              have hF249 : qFr [] [69] σ α σ α246 := by rw [e247]; exact qFr_r hF228 69 _ (by decide)
              refine qr_aload_n 60 rfl g219 rfl ?_
              refine qr_iload_n 61 rfl g220 rfl ?_
              refine qr_iconst 62 rfl rfl ?_
              refine qr_iadd 63 rfl rfl ?_
              refine qy_v 5 rfl ?_
              refine qr_iload_n 64 rfl g221 rfl ?_
              refine qr_iconst 65 rfl rfl ?_
              refine qr_iload 67 rfl g223 rfl ?_
              refine qr_ishl 68 rfl rfl ?_
              refine qy_shl1E (N := 5) (by omega) (fun v250 hv250 hev250 => ?_)
              refine qr_ior 69 rfl rfl ?_
              refine qy_canE (fun v251 hv251 hev251 => ?_)
              refine qr_bipush 71 rfl (by decide) rfl ?_
              refine qr_iload_n 72 rfl g222 rfl ?_
              refine qr_imul 73 rfl rfl ?_
              refine qr_iload 75 rfl g223 rfl ?_
              refine qr_iadd 76 rfl rfl ?_
              refine qr_iconst 77 rfl rfl ?_
              refine qr_iadd 78 rfl rfl ?_
              have hs252 : 0 ≤ σ 64 2 ∧ σ 64 2 ≤ 12 := hI248.1 64 2
              have hs253 : (-2147483648) ≤ σ 64 7 ∧ σ 64 7 ≤ 2147483647 := hI248.1 64 7
              refine qr_callN 81 rfl rfl rfl (sf_131_64x5 (d := d + 0) hI248 hv251 (by omega) (by omega) (by omega) (by omega) (by omega) (by have hq := qLs_nx (qLs_ag hx231 p4) (by omega) (((congrFun e247 69).trans (qw_r_eq.trans (congrArg (fun f => qzu f (4 : Int).toNat u224) rfl)))); exact hq) (qGo_app p5 (by omega) (by rw [qz_val hev251 (by omega) (qz_or_r _ _), hev250])) (by rw [qdg_app, ← p6])) ?_
              rintro _ _ ⟨α257, rfl, hI258, hG259, v254, rfl, hv254, hx255, hx256⟩
              have hF260 : qFr [] [69] σ α σ α257 := qFr_t hF249 hG259 (by decide) (by decide)
              rw [hF249.2 68 (by decide)] at hx255
              show qr_W (qe L xs vb) (d + 3) qx_e131 _ (81, _, [.int (qz v254)], qw σ α257 κ ρ, 0, 0)
              refine qr_istore _ 83 rfl (by decide) rfl rfl ?_
              refine qr_iload 85 rfl (qm_ge _ _ _) rfl ?_
              refine qr_bipush 87 rfl (by decide) rfl ?_
              refine qr_icmp_eq 93 90 rfl rfl rfl hv254 (by decide) (fun h261 => ?_) (fun h261 => ?_)
              · skip
                refine qr_iinc _ 96 rfl (qm_gk g223 (by decide) (Or.inr rfl)) (by decide) rfl rfl ?_
                refine qr_goto 19 rfl rfl ?_
                exact ih235 _ (u224 + 1) α257 (by omega) (qm_gk (qm_gk g219 (by decide) (Or.inl (by decide))) (by decide) (Or.inl (by decide))) (qm_gk (qm_gk g220 (by decide) (Or.inl (by decide))) (by decide) (Or.inl (by decide))) (qm_gk (qm_gk g221 (by decide) (Or.inl (by decide))) (by decide) (Or.inl (by decide))) (qm_gk (qm_gk g222 (by decide) (Or.inl (by decide))) (by decide) (Or.inr rfl)) (qm_ge _ _ _) (by omega) hI258 hF260 ((hG259.2 68 (by decide)).trans ((congrFun e247 68).trans ((qw_r_ne (by decide)).trans hk229))) (fun j hj => (hx256 j (by omega)).trans ((qLs_kp (t := 4) (by omega) (((congrFun e247 69).trans (qw_r_eq.trans (congrArg (fun f => qzu f (4 : Int).toNat u224) rfl)))) j hj).trans (hx231 j hj))) (qfj_go (by omega) hx232 (by rw [qdF_n (fun hb => by rcases hx243 with hz | hz; (omega); (exact hz.2 ((qLB_of (t := 4) (i := u224) (qLs_ag hx231 p4) (fun hm => absurd ((p5 u224 (by omega) (by omega)).mpr hm) (by have hq := qbit_qbi x2 (i := u224) (by omega); omega))).mp hb))), ← hx255]; omega)) (by omega)
              · skip
                refine qr_iload 92 rfl (qm_ge _ _ _) rfl ?_
                refine qr_retI rfl rfl (by decide) (by decide) ?_
                exact ⟨_, rfl, hI258, hF260, v254, rfl, hv254, (by rw [(qdp_s (k := (σ 64 2 - 5 : Int).toNat) (by omega))]; exact qfj_hit (i := u224) (by omega) (by omega) hx232 (by rw [qdF_n (fun hb => by rcases hx243 with hz | hz; (omega); (exact hz.2 ((qLB_of (t := 4) (i := u224) (qLs_ag hx231 p4) (fun hm => absurd ((p5 u224 (by omega) (by omega)).mpr hm) (by have hq := qbit_qbi x2 (i := u224) (by omega); omega))).mp hb)))]; exact hx255) (by omega)), (fun j hj => (hx256 j (by omega)).trans ((qLs_kp (t := 4) (by omega) (((congrFun e247 69).trans (qw_r_eq.trans (congrArg (fun f => qzu f (4 : Int).toNat u224) rfl)))) j hj).trans (hx231 j hj)))⟩
            · skip
              refine qr_goto 93 rfl rfl ?_
              refine qr_iinc _ 96 rfl g223 (by decide) rfl rfl ?_
              refine qr_goto 19 rfl rfl ?_
              exact ih235 _ (u224 + 1) α226 (by omega) (qm_gk g219 (by decide) (Or.inl (by decide))) (qm_gk g220 (by decide) (Or.inl (by decide))) (qm_gk g221 (by decide) (Or.inl (by decide))) (qm_gk g222 (by decide) (Or.inr rfl)) (qm_ge _ _ _) (by omega) hI227 hF228 hk229 hx231 (qfj_go (by omega) hx232 (qdF_b ((qLB_of (t := 4) (i := u224) (qLs_ag hx231 p4) (fun hm => absurd ((p5 u224 (by omega) (by omega)).mpr hm) (by have hq := qbit_qbi x2 (i := u224) (by omega); omega))).mpr (by rcases hx243 with hz | hz; (exact hz.2); (omega))))) (by omega)
    exact hL234 ((6 - 0 + 1 : Int)).toNat _ 0 α (by omega) rfl rfl rfl rfl rfl (by decide) hI hF0 rfl (fun _ _ => rfl) rfl (by omega)

set_option maxHeartbeats 4000000 in
set_option maxRecDepth 20000 in
/-- OneRoof$Guests.depart -/
theorem sf_131_64x3 {L : Nat} {xs : Nat → Int} {vb : Bool} {d : Nat} {σ α : Nat → Nat → Int} {κ : Nat → Option Nat} {ρ : Nat} {x2 : Int} {x3 : Int} {os : List Int} (hI : qI σ α κ ρ) (r2 : (-2147483648) ≤ x2 ∧ x2 ≤ 2147483647) (r3 : 0 ≤ x3 ∧ x3 ≤ 999) (p0 : σ 64 2 ≤ 6) (p1 : 0 ≤ σ 64 7 ∧ σ 64 7 ≤ 99) (p2 : 3 ≤ σ 64 2) (p3 : 0 ≤ 3) (p4 : qLs (α 69) 3 os) (p5 : qGo x2 os) (p6 : x3 = qdg os) : qm_T (qe L xs vb) (d + 5) 131 [.ref 64, .int (qz 3), .int (qz x2), .int (qz x3)] (qw σ α κ ρ) (fun r w' => ∃ α', w' = qw σ α' κ ρ ∧ qI σ α' κ ρ ∧ qFr [] [69] σ α σ α' ∧ ∃ v : Int, r = some (.int (qz v)) ∧ ((-2147483648) ≤ v ∧ v ≤ 2147483647) ∧ v = qdp (qLB (fun t i o : Int => qbit (α 68 (t * 6 + i : Int).toNat) o = 1) (σ 64 7)) (σ 64 2 : Int).toNat (σ 64 2 - 3 : Int).toNat os ∧ (∀ j : Nat, (j : Int) < 3 → α' 69 j = α 69 j)) := by
  refine qr_start (d := d + 4) qv_e131 (Nat.le_of_ble_eq_true rfl) ?_
  show qr_W (qe L xs vb) (d + 4) qx_e131 _ (0, [(0, .ref 64), (1, .int (qz 3)), (2, .int (qz x2)), (3, .int (qz x3))], [], _, 0, 0)
  have hF0 := qFr_rf [] [69] σ α
  have hz64_2 : 0 ≤ σ 64 2 ∧ σ 64 2 ≤ 12 := hI.1 64 2
  have hz64_7 : (-2147483648) ≤ σ 64 7 ∧ σ 64 7 ≤ 2147483647 := hI.1 64 7
  refine qr_iload_n 1 rfl rfl rfl ?_
  refine qr_aload_n 2 rfl rfl rfl ?_
  refine qr_get 5 rfl rfl rfl (by decide) rfl ?_
  refine qr_icmp_ge 14 8 rfl rfl rfl (by decide) (qrg hz64_2 (by decide) (by decide)) (fun h1 => ?_) (fun h1 => ?_)
  · skip
    refine qr_iload_n 15 rfl rfl rfl ?_
    refine qr_retI rfl rfl (by decide) (by decide) ?_
    exact ⟨_, rfl, hI, hF0, x3, rfl, (qrg r3 (by decide) (by decide)), (by rw [show (σ 64 2 - 3 : Int).toNat = 0 by omega]; exact p6), (fun _ _ => rfl)⟩
  · skip
    refine qr_iload_n 9 rfl rfl rfl ?_
    refine qr_bipush 11 rfl (by decide) rfl ?_
    refine qr_icmp_lt 16 14 rfl rfl rfl (by decide) (by decide) (fun h2 => ?_) (fun h => False.elim (by omega))
    refine qr_iconst 17 rfl rfl ?_
    refine qr_istore _ 19 rfl (by decide) rfl rfl ?_
    have hL234 : ∀ (n : Nat) (ls : qm_L) (u224 : Int) (α226 : Nat → Nat → Int), 6 - u224 < (n : Int) → qm_get ls 0 = some (.ref 64) → qm_get ls 1 = some (.int (qz 3)) → qm_get ls 2 = some (.int (qz x2)) → qm_get ls 3 = some (.int (qz x3)) → qm_get ls 4 = some (.int (qz u224)) → (0 ≤ u224 ∧ u224 ≤ 6) → qI σ α226 κ ρ → qFr [] [69] σ α σ α226 → α226 68 = (α 68) → (∀ j : Nat, (j : Int) < 3 → α226 69 j = α 69 j) → qfj (qdF (qLB (fun t i o : Int => qbit (α 68 (t * 6 + i : Int).toNat) o = 1) (σ 64 7)) (σ 64 2 : Int).toNat (σ 64 2 - 4 : Int).toNat os) (u224 : Int).toNat = -2 → u224 ≤ σ 64 2 → qr_W (qe L xs vb) (d + 4) qx_e131 (fun r w' => ∃ α', w' = qw σ α' κ ρ ∧ qI σ α' κ ρ ∧ qFr [] [69] σ α σ α' ∧ ∃ v : Int, r = some (.int (qz v)) ∧ ((-2147483648) ≤ v ∧ v ≤ 2147483647) ∧ v = qdp (qLB (fun t i o : Int => qbit (α 68 (t * 6 + i : Int).toNat) o = 1) (σ 64 7)) (σ 64 2 : Int).toNat (σ 64 2 - 3 : Int).toNat os ∧ (∀ j : Nat, (j : Int) < 3 → α' 69 j = α 69 j)) (19, ls, [], qw σ α226 κ ρ, 0, 0) := by
      intro n
      induction n with
      | zero => intro ls u224 α226 hm g219 g220 g221 g222 g223 hf230 hI227 hF228 hk229 hx231 hx232 hx233; exact False.elim (by omega)
      | succ n ih235 =>
        intro ls u224 α226 hm g219 g220 g221 g222 g223 hf230 hI227 hF228 hk229 hx231 hx232 hx233
        refine qr_iload 21 rfl g223 rfl ?_
        refine qr_aload_n 22 rfl g219 rfl ?_
        refine qr_get 25 rfl rfl rfl (by decide) rfl ?_
        refine qr_icmp_ge 99 28 rfl rfl rfl (qrg hf230 (by decide) (by decide)) (qrg hz64_2 (by decide) (by decide)) (fun h236 => ?_) (fun h236 => ?_)
        · skip
          refine qr_bipush 101 rfl (by decide) rfl ?_
          refine qr_retI rfl rfl (by decide) (by decide) ?_
          exact ⟨_, rfl, hI227, hF228, (-2), rfl, (by decide), (by rw [(qdp_s (k := (σ 64 2 - 4 : Int).toNat) (by omega))]; have hz := hx232; rw [show u224 = σ 64 2 by omega] at hz; exact hz.symm), hx231⟩
        · skip
          refine qr_iload_n 29 rfl g221 rfl ?_
          refine qr_i2l 30 rfl r2 rfl ?_
          refine qr_iload 32 rfl g223 rfl ?_
          refine qr_callN 35 rfl rfl rfl (sf_50b (d := d + 3) hI227 (qrg r2 (by decide) (by decide)) (qrg hf230 (by decide) (by decide))) ?_
          rintro _ _ ⟨rfl, v237, rfl, hv237, hp238⟩
          show qr_W (qe L xs vb) (d + 4) qx_e131 _ (35, _, [.int (qz v237)], qw σ α226 κ ρ, 0, 0)
          refine qr_if_ne 93 38 rfl rfl rfl (qrg hv237 (by decide) (by decide)) (fun h239 => ?_) (fun h239 => ?_)
          · skip
            refine qr_iinc _ 96 rfl g223 (by decide) rfl rfl ?_
            refine qr_goto 19 rfl rfl ?_
            exact ih235 _ (u224 + 1) α226 (by omega) (qm_gk g219 (by decide) (Or.inl (by decide))) (qm_gk g220 (by decide) (Or.inl (by decide))) (qm_gk g221 (by decide) (Or.inl (by decide))) (qm_gk g222 (by decide) (Or.inr rfl)) (qm_ge _ _ _) (by omega) hI227 hF228 hk229 hx231 (qfj_go (by omega) hx232 (qdF_b (Or.inl ((p5 u224 (by omega) (by omega)).mp (by have hq := qbit_qbi x2 (i := u224) (by omega); omega))))) (by omega)
          · skip
            refine qr_aload_n 39 rfl g219 rfl ?_
            refine qr_iload_n 40 rfl g220 rfl ?_
            refine qr_iload 42 rfl g223 rfl ?_
            have hs240 : 0 ≤ σ 64 2 ∧ σ 64 2 ≤ 12 := hI227.1 64 2
            have hs241 : (-2147483648) ≤ σ 64 7 ∧ σ 64 7 ≤ 2147483647 := hI227.1 64 7
            refine qr_callN 45 rfl rfl rfl (sf_132_64x (d := d + 2) hI227 (by decide) (by omega) (by omega) (by omega)) ?_
            rintro _ _ ⟨rfl, v242, rfl, hv242, hx243⟩
            rw [hF228.2 68 (by decide)] at hx243
            show qr_W (qe L xs vb) (d + 4) qx_e131 _ (45, _, [.int (qz v242)], qw σ α226 κ ρ, 0, 0)
            refine qr_if_eq 51 48 rfl rfl rfl (qrg hv242 (by decide) (by decide)) (fun h245 => ?_) (fun h245 => ?_)
            · skip
              refine qr_aload_n 52 rfl g219 rfl ?_
              refine qr_get 55 rfl rfl rfl (by decide) rfl ?_
              refine qr_iload_n 56 rfl g220 rfl ?_
              refine qr_iload 58 rfl g223 rfl ?_
              refine qr_iastore 59 rfl (by decide) rfl (by decide) (by decide) rfl ?_
              refine qy_wA (qw_r α226 69 (qzu (α226 69) (3 : Int).toNat u224)) rfl (fun α246 e247 => ?_)
              have hI248 : qI σ α246 κ ρ := by rw [e247]; exact qI_r hI227 69 _ rfl (show 0 ≤ u224 ∧ u224 ≤ 11 by omega)
              have hF249 : qFr [] [69] σ α σ α246 := by rw [e247]; exact qFr_r hF228 69 _ (by decide)
              refine qr_aload_n 60 rfl g219 rfl ?_
              refine qr_iload_n 61 rfl g220 rfl ?_
              refine qr_iconst 62 rfl rfl ?_
              refine qr_iadd 63 rfl rfl ?_
              refine qy_v 4 rfl ?_
              refine qr_iload_n 64 rfl g221 rfl ?_
              refine qr_iconst 65 rfl rfl ?_
              refine qr_iload 67 rfl g223 rfl ?_
              refine qr_ishl 68 rfl rfl ?_
              refine qy_shl1E (N := 5) (by omega) (fun v250 hv250 hev250 => ?_)
              refine qr_ior 69 rfl rfl ?_
              refine qy_canE (fun v251 hv251 hev251 => ?_)
              refine qr_bipush 71 rfl (by decide) rfl ?_
              refine qr_iload_n 72 rfl g222 rfl ?_
              refine qr_imul 73 rfl rfl ?_
              refine qr_iload 75 rfl g223 rfl ?_
              refine qr_iadd 76 rfl rfl ?_
              refine qr_iconst 77 rfl rfl ?_
              refine qr_iadd 78 rfl rfl ?_
              have hs252 : 0 ≤ σ 64 2 ∧ σ 64 2 ≤ 12 := hI248.1 64 2
              have hs253 : (-2147483648) ≤ σ 64 7 ∧ σ 64 7 ≤ 2147483647 := hI248.1 64 7
              refine qr_callN 81 rfl rfl rfl (sf_131_64x4 (d := d + 0) hI248 hv251 (by omega) (by omega) (by omega) (by omega) (by omega) (by have hq := qLs_nx (qLs_ag hx231 p4) (by omega) (((congrFun e247 69).trans (qw_r_eq.trans (congrArg (fun f => qzu f (3 : Int).toNat u224) rfl)))); exact hq) (qGo_app p5 (by omega) (by rw [qz_val hev251 (by omega) (qz_or_r _ _), hev250])) (by rw [qdg_app, ← p6])) ?_
              rintro _ _ ⟨α257, rfl, hI258, hG259, v254, rfl, hv254, hx255, hx256⟩
              have hF260 : qFr [] [69] σ α σ α257 := qFr_t hF249 hG259 (by decide) (by decide)
              rw [hF249.2 68 (by decide)] at hx255
              show qr_W (qe L xs vb) (d + 4) qx_e131 _ (81, _, [.int (qz v254)], qw σ α257 κ ρ, 0, 0)
              refine qr_istore _ 83 rfl (by decide) rfl rfl ?_
              refine qr_iload 85 rfl (qm_ge _ _ _) rfl ?_
              refine qr_bipush 87 rfl (by decide) rfl ?_
              refine qr_icmp_eq 93 90 rfl rfl rfl hv254 (by decide) (fun h261 => ?_) (fun h261 => ?_)
              · skip
                refine qr_iinc _ 96 rfl (qm_gk g223 (by decide) (Or.inr rfl)) (by decide) rfl rfl ?_
                refine qr_goto 19 rfl rfl ?_
                exact ih235 _ (u224 + 1) α257 (by omega) (qm_gk (qm_gk g219 (by decide) (Or.inl (by decide))) (by decide) (Or.inl (by decide))) (qm_gk (qm_gk g220 (by decide) (Or.inl (by decide))) (by decide) (Or.inl (by decide))) (qm_gk (qm_gk g221 (by decide) (Or.inl (by decide))) (by decide) (Or.inl (by decide))) (qm_gk (qm_gk g222 (by decide) (Or.inl (by decide))) (by decide) (Or.inr rfl)) (qm_ge _ _ _) (by omega) hI258 hF260 ((hG259.2 68 (by decide)).trans ((congrFun e247 68).trans ((qw_r_ne (by decide)).trans hk229))) (fun j hj => (hx256 j (by omega)).trans ((qLs_kp (t := 3) (by omega) (((congrFun e247 69).trans (qw_r_eq.trans (congrArg (fun f => qzu f (3 : Int).toNat u224) rfl)))) j hj).trans (hx231 j hj))) (qfj_go (by omega) hx232 (by rw [qdF_n (fun hb => by rcases hx243 with hz | hz; (omega); (exact hz.2 ((qLB_of (t := 3) (i := u224) (qLs_ag hx231 p4) (fun hm => absurd ((p5 u224 (by omega) (by omega)).mpr hm) (by have hq := qbit_qbi x2 (i := u224) (by omega); omega))).mp hb))), ← hx255]; omega)) (by omega)
              · skip
                refine qr_iload 92 rfl (qm_ge _ _ _) rfl ?_
                refine qr_retI rfl rfl (by decide) (by decide) ?_
                exact ⟨_, rfl, hI258, hF260, v254, rfl, hv254, (by rw [(qdp_s (k := (σ 64 2 - 4 : Int).toNat) (by omega))]; exact qfj_hit (i := u224) (by omega) (by omega) hx232 (by rw [qdF_n (fun hb => by rcases hx243 with hz | hz; (omega); (exact hz.2 ((qLB_of (t := 3) (i := u224) (qLs_ag hx231 p4) (fun hm => absurd ((p5 u224 (by omega) (by omega)).mpr hm) (by have hq := qbit_qbi x2 (i := u224) (by omega); omega))).mp hb)))]; exact hx255) (by omega)), (fun j hj => (hx256 j (by omega)).trans ((qLs_kp (t := 3) (by omega) (((congrFun e247 69).trans (qw_r_eq.trans (congrArg (fun f => qzu f (3 : Int).toNat u224) rfl)))) j hj).trans (hx231 j hj)))⟩
            · skip
              refine qr_goto 93 rfl rfl ?_
              refine qr_iinc _ 96 rfl g223 (by decide) rfl rfl ?_
              refine qr_goto 19 rfl rfl ?_
              exact ih235 _ (u224 + 1) α226 (by omega) (qm_gk g219 (by decide) (Or.inl (by decide))) (qm_gk g220 (by decide) (Or.inl (by decide))) (qm_gk g221 (by decide) (Or.inl (by decide))) (qm_gk g222 (by decide) (Or.inr rfl)) (qm_ge _ _ _) (by omega) hI227 hF228 hk229 hx231 (qfj_go (by omega) hx232 (qdF_b ((qLB_of (t := 3) (i := u224) (qLs_ag hx231 p4) (fun hm => absurd ((p5 u224 (by omega) (by omega)).mpr hm) (by have hq := qbit_qbi x2 (i := u224) (by omega); omega))).mpr (by rcases hx243 with hz | hz; (exact hz.2); (omega))))) (by omega)
    exact hL234 ((6 - 0 + 1 : Int)).toNat _ 0 α (by omega) rfl rfl rfl rfl rfl (by decide) hI hF0 rfl (fun _ _ => rfl) rfl (by omega)

set_option maxHeartbeats 4000000 in
set_option maxRecDepth 20000 in
/-- OneRoof$Guests.depart -/
theorem sf_131_64x2 {L : Nat} {xs : Nat → Int} {vb : Bool} {d : Nat} {σ α : Nat → Nat → Int} {κ : Nat → Option Nat} {ρ : Nat} {x2 : Int} {x3 : Int} {os : List Int} (hI : qI σ α κ ρ) (r2 : (-2147483648) ≤ x2 ∧ x2 ≤ 2147483647) (r3 : 0 ≤ x3 ∧ x3 ≤ 99) (p0 : σ 64 2 ≤ 6) (p1 : 0 ≤ σ 64 7 ∧ σ 64 7 ≤ 99) (p2 : 2 ≤ σ 64 2) (p3 : 0 ≤ 2) (p4 : qLs (α 69) 2 os) (p5 : qGo x2 os) (p6 : x3 = qdg os) : qm_T (qe L xs vb) (d + 6) 131 [.ref 64, .int (qz 2), .int (qz x2), .int (qz x3)] (qw σ α κ ρ) (fun r w' => ∃ α', w' = qw σ α' κ ρ ∧ qI σ α' κ ρ ∧ qFr [] [69] σ α σ α' ∧ ∃ v : Int, r = some (.int (qz v)) ∧ ((-2147483648) ≤ v ∧ v ≤ 2147483647) ∧ v = qdp (qLB (fun t i o : Int => qbit (α 68 (t * 6 + i : Int).toNat) o = 1) (σ 64 7)) (σ 64 2 : Int).toNat (σ 64 2 - 2 : Int).toNat os ∧ (∀ j : Nat, (j : Int) < 2 → α' 69 j = α 69 j)) := by
  refine qr_start (d := d + 5) qv_e131 (Nat.le_of_ble_eq_true rfl) ?_
  show qr_W (qe L xs vb) (d + 5) qx_e131 _ (0, [(0, .ref 64), (1, .int (qz 2)), (2, .int (qz x2)), (3, .int (qz x3))], [], _, 0, 0)
  have hF0 := qFr_rf [] [69] σ α
  have hz64_2 : 0 ≤ σ 64 2 ∧ σ 64 2 ≤ 12 := hI.1 64 2
  have hz64_7 : (-2147483648) ≤ σ 64 7 ∧ σ 64 7 ≤ 2147483647 := hI.1 64 7
  refine qr_iload_n 1 rfl rfl rfl ?_
  refine qr_aload_n 2 rfl rfl rfl ?_
  refine qr_get 5 rfl rfl rfl (by decide) rfl ?_
  refine qr_icmp_ge 14 8 rfl rfl rfl (by decide) (qrg hz64_2 (by decide) (by decide)) (fun h1 => ?_) (fun h1 => ?_)
  · skip
    refine qr_iload_n 15 rfl rfl rfl ?_
    refine qr_retI rfl rfl (by decide) (by decide) ?_
    exact ⟨_, rfl, hI, hF0, x3, rfl, (qrg r3 (by decide) (by decide)), (by rw [show (σ 64 2 - 2 : Int).toNat = 0 by omega]; exact p6), (fun _ _ => rfl)⟩
  · skip
    refine qr_iload_n 9 rfl rfl rfl ?_
    refine qr_bipush 11 rfl (by decide) rfl ?_
    refine qr_icmp_lt 16 14 rfl rfl rfl (by decide) (by decide) (fun h2 => ?_) (fun h => False.elim (by omega))
    refine qr_iconst 17 rfl rfl ?_
    refine qr_istore _ 19 rfl (by decide) rfl rfl ?_
    have hL234 : ∀ (n : Nat) (ls : qm_L) (u224 : Int) (α226 : Nat → Nat → Int), 6 - u224 < (n : Int) → qm_get ls 0 = some (.ref 64) → qm_get ls 1 = some (.int (qz 2)) → qm_get ls 2 = some (.int (qz x2)) → qm_get ls 3 = some (.int (qz x3)) → qm_get ls 4 = some (.int (qz u224)) → (0 ≤ u224 ∧ u224 ≤ 6) → qI σ α226 κ ρ → qFr [] [69] σ α σ α226 → α226 68 = (α 68) → (∀ j : Nat, (j : Int) < 2 → α226 69 j = α 69 j) → qfj (qdF (qLB (fun t i o : Int => qbit (α 68 (t * 6 + i : Int).toNat) o = 1) (σ 64 7)) (σ 64 2 : Int).toNat (σ 64 2 - 3 : Int).toNat os) (u224 : Int).toNat = -2 → u224 ≤ σ 64 2 → qr_W (qe L xs vb) (d + 5) qx_e131 (fun r w' => ∃ α', w' = qw σ α' κ ρ ∧ qI σ α' κ ρ ∧ qFr [] [69] σ α σ α' ∧ ∃ v : Int, r = some (.int (qz v)) ∧ ((-2147483648) ≤ v ∧ v ≤ 2147483647) ∧ v = qdp (qLB (fun t i o : Int => qbit (α 68 (t * 6 + i : Int).toNat) o = 1) (σ 64 7)) (σ 64 2 : Int).toNat (σ 64 2 - 2 : Int).toNat os ∧ (∀ j : Nat, (j : Int) < 2 → α' 69 j = α 69 j)) (19, ls, [], qw σ α226 κ ρ, 0, 0) := by
      intro n
      induction n with
      | zero => intro ls u224 α226 hm g219 g220 g221 g222 g223 hf230 hI227 hF228 hk229 hx231 hx232 hx233; exact False.elim (by omega)
      | succ n ih235 =>
        intro ls u224 α226 hm g219 g220 g221 g222 g223 hf230 hI227 hF228 hk229 hx231 hx232 hx233
        refine qr_iload 21 rfl g223 rfl ?_
        refine qr_aload_n 22 rfl g219 rfl ?_
        refine qr_get 25 rfl rfl rfl (by decide) rfl ?_
        refine qr_icmp_ge 99 28 rfl rfl rfl (qrg hf230 (by decide) (by decide)) (qrg hz64_2 (by decide) (by decide)) (fun h236 => ?_) (fun h236 => ?_)
        · skip
          refine qr_bipush 101 rfl (by decide) rfl ?_
          refine qr_retI rfl rfl (by decide) (by decide) ?_
          exact ⟨_, rfl, hI227, hF228, (-2), rfl, (by decide), (by rw [(qdp_s (k := (σ 64 2 - 3 : Int).toNat) (by omega))]; have hz := hx232; rw [show u224 = σ 64 2 by omega] at hz; exact hz.symm), hx231⟩
        · skip
          refine qr_iload_n 29 rfl g221 rfl ?_
          refine qr_i2l 30 rfl r2 rfl ?_
          refine qr_iload 32 rfl g223 rfl ?_
          refine qr_callN 35 rfl rfl rfl (sf_50b (d := d + 4) hI227 (qrg r2 (by decide) (by decide)) (qrg hf230 (by decide) (by decide))) ?_
          rintro _ _ ⟨rfl, v237, rfl, hv237, hp238⟩
          show qr_W (qe L xs vb) (d + 5) qx_e131 _ (35, _, [.int (qz v237)], qw σ α226 κ ρ, 0, 0)
          refine qr_if_ne 93 38 rfl rfl rfl (qrg hv237 (by decide) (by decide)) (fun h239 => ?_) (fun h239 => ?_)
          · skip
            refine qr_iinc _ 96 rfl g223 (by decide) rfl rfl ?_
            refine qr_goto 19 rfl rfl ?_
            exact ih235 _ (u224 + 1) α226 (by omega) (qm_gk g219 (by decide) (Or.inl (by decide))) (qm_gk g220 (by decide) (Or.inl (by decide))) (qm_gk g221 (by decide) (Or.inl (by decide))) (qm_gk g222 (by decide) (Or.inr rfl)) (qm_ge _ _ _) (by omega) hI227 hF228 hk229 hx231 (qfj_go (by omega) hx232 (qdF_b (Or.inl ((p5 u224 (by omega) (by omega)).mp (by have hq := qbit_qbi x2 (i := u224) (by omega); omega))))) (by omega)
          · skip
            refine qr_aload_n 39 rfl g219 rfl ?_
            refine qr_iload_n 40 rfl g220 rfl ?_
            refine qr_iload 42 rfl g223 rfl ?_
            have hs240 : 0 ≤ σ 64 2 ∧ σ 64 2 ≤ 12 := hI227.1 64 2
            have hs241 : (-2147483648) ≤ σ 64 7 ∧ σ 64 7 ≤ 2147483647 := hI227.1 64 7
            refine qr_callN 45 rfl rfl rfl (sf_132_64x (d := d + 3) hI227 (by decide) (by omega) (by omega) (by omega)) ?_
            rintro _ _ ⟨rfl, v242, rfl, hv242, hx243⟩
            rw [hF228.2 68 (by decide)] at hx243
            show qr_W (qe L xs vb) (d + 5) qx_e131 _ (45, _, [.int (qz v242)], qw σ α226 κ ρ, 0, 0)
            refine qr_if_eq 51 48 rfl rfl rfl (qrg hv242 (by decide) (by decide)) (fun h245 => ?_) (fun h245 => ?_)
            · skip
              refine qr_aload_n 52 rfl g219 rfl ?_
              refine qr_get 55 rfl rfl rfl (by decide) rfl ?_
              refine qr_iload_n 56 rfl g220 rfl ?_
              refine qr_iload 58 rfl g223 rfl ?_
              refine qr_iastore 59 rfl (by decide) rfl (by decide) (by decide) rfl ?_
              refine qy_wA (qw_r α226 69 (qzu (α226 69) (2 : Int).toNat u224)) rfl (fun α246 e247 => ?_)
              have hI248 : qI σ α246 κ ρ := by rw [e247]; exact qI_r hI227 69 _ rfl (show 0 ≤ u224 ∧ u224 ≤ 11 by omega)
              have hF249 : qFr [] [69] σ α σ α246 := by rw [e247]; exact qFr_r hF228 69 _ (by decide)
              refine qr_aload_n 60 rfl g219 rfl ?_
              refine qr_iload_n 61 rfl g220 rfl ?_
              refine qr_iconst 62 rfl rfl ?_
              refine qr_iadd 63 rfl rfl ?_
              refine qy_v 3 rfl ?_
              refine qr_iload_n 64 rfl g221 rfl ?_
              refine qr_iconst 65 rfl rfl ?_
              refine qr_iload 67 rfl g223 rfl ?_
              refine qr_ishl 68 rfl rfl ?_
              refine qy_shl1E (N := 5) (by omega) (fun v250 hv250 hev250 => ?_)
              refine qr_ior 69 rfl rfl ?_
              refine qy_canE (fun v251 hv251 hev251 => ?_)
              refine qr_bipush 71 rfl (by decide) rfl ?_
              refine qr_iload_n 72 rfl g222 rfl ?_
              refine qr_imul 73 rfl rfl ?_
              refine qr_iload 75 rfl g223 rfl ?_
              refine qr_iadd 76 rfl rfl ?_
              refine qr_iconst 77 rfl rfl ?_
              refine qr_iadd 78 rfl rfl ?_
              have hs252 : 0 ≤ σ 64 2 ∧ σ 64 2 ≤ 12 := hI248.1 64 2
              have hs253 : (-2147483648) ≤ σ 64 7 ∧ σ 64 7 ≤ 2147483647 := hI248.1 64 7
              refine qr_callN 81 rfl rfl rfl (sf_131_64x3 (d := d + 0) hI248 hv251 (by omega) (by omega) (by omega) (by omega) (by omega) (by have hq := qLs_nx (qLs_ag hx231 p4) (by omega) (((congrFun e247 69).trans (qw_r_eq.trans (congrArg (fun f => qzu f (2 : Int).toNat u224) rfl)))); exact hq) (qGo_app p5 (by omega) (by rw [qz_val hev251 (by omega) (qz_or_r _ _), hev250])) (by rw [qdg_app, ← p6])) ?_
              rintro _ _ ⟨α257, rfl, hI258, hG259, v254, rfl, hv254, hx255, hx256⟩
              have hF260 : qFr [] [69] σ α σ α257 := qFr_t hF249 hG259 (by decide) (by decide)
              rw [hF249.2 68 (by decide)] at hx255
              show qr_W (qe L xs vb) (d + 5) qx_e131 _ (81, _, [.int (qz v254)], qw σ α257 κ ρ, 0, 0)
              refine qr_istore _ 83 rfl (by decide) rfl rfl ?_
              refine qr_iload 85 rfl (qm_ge _ _ _) rfl ?_
              refine qr_bipush 87 rfl (by decide) rfl ?_
              refine qr_icmp_eq 93 90 rfl rfl rfl hv254 (by decide) (fun h261 => ?_) (fun h261 => ?_)
              · skip
                refine qr_iinc _ 96 rfl (qm_gk g223 (by decide) (Or.inr rfl)) (by decide) rfl rfl ?_
                refine qr_goto 19 rfl rfl ?_
                exact ih235 _ (u224 + 1) α257 (by omega) (qm_gk (qm_gk g219 (by decide) (Or.inl (by decide))) (by decide) (Or.inl (by decide))) (qm_gk (qm_gk g220 (by decide) (Or.inl (by decide))) (by decide) (Or.inl (by decide))) (qm_gk (qm_gk g221 (by decide) (Or.inl (by decide))) (by decide) (Or.inl (by decide))) (qm_gk (qm_gk g222 (by decide) (Or.inl (by decide))) (by decide) (Or.inr rfl)) (qm_ge _ _ _) (by omega) hI258 hF260 ((hG259.2 68 (by decide)).trans ((congrFun e247 68).trans ((qw_r_ne (by decide)).trans hk229))) (fun j hj => (hx256 j (by omega)).trans ((qLs_kp (t := 2) (by omega) (((congrFun e247 69).trans (qw_r_eq.trans (congrArg (fun f => qzu f (2 : Int).toNat u224) rfl)))) j hj).trans (hx231 j hj))) (qfj_go (by omega) hx232 (by rw [qdF_n (fun hb => by rcases hx243 with hz | hz; (omega); (exact hz.2 ((qLB_of (t := 2) (i := u224) (qLs_ag hx231 p4) (fun hm => absurd ((p5 u224 (by omega) (by omega)).mpr hm) (by have hq := qbit_qbi x2 (i := u224) (by omega); omega))).mp hb))), ← hx255]; omega)) (by omega)
              · skip
                refine qr_iload 92 rfl (qm_ge _ _ _) rfl ?_
                refine qr_retI rfl rfl (by decide) (by decide) ?_
                exact ⟨_, rfl, hI258, hF260, v254, rfl, hv254, (by rw [(qdp_s (k := (σ 64 2 - 3 : Int).toNat) (by omega))]; exact qfj_hit (i := u224) (by omega) (by omega) hx232 (by rw [qdF_n (fun hb => by rcases hx243 with hz | hz; (omega); (exact hz.2 ((qLB_of (t := 2) (i := u224) (qLs_ag hx231 p4) (fun hm => absurd ((p5 u224 (by omega) (by omega)).mpr hm) (by have hq := qbit_qbi x2 (i := u224) (by omega); omega))).mp hb)))]; exact hx255) (by omega)), (fun j hj => (hx256 j (by omega)).trans ((qLs_kp (t := 2) (by omega) (((congrFun e247 69).trans (qw_r_eq.trans (congrArg (fun f => qzu f (2 : Int).toNat u224) rfl)))) j hj).trans (hx231 j hj)))⟩
            · skip
              refine qr_goto 93 rfl rfl ?_
              refine qr_iinc _ 96 rfl g223 (by decide) rfl rfl ?_
              refine qr_goto 19 rfl rfl ?_
              exact ih235 _ (u224 + 1) α226 (by omega) (qm_gk g219 (by decide) (Or.inl (by decide))) (qm_gk g220 (by decide) (Or.inl (by decide))) (qm_gk g221 (by decide) (Or.inl (by decide))) (qm_gk g222 (by decide) (Or.inr rfl)) (qm_ge _ _ _) (by omega) hI227 hF228 hk229 hx231 (qfj_go (by omega) hx232 (qdF_b ((qLB_of (t := 2) (i := u224) (qLs_ag hx231 p4) (fun hm => absurd ((p5 u224 (by omega) (by omega)).mpr hm) (by have hq := qbit_qbi x2 (i := u224) (by omega); omega))).mpr (by rcases hx243 with hz | hz; (exact hz.2); (omega))))) (by omega)
    exact hL234 ((6 - 0 + 1 : Int)).toNat _ 0 α (by omega) rfl rfl rfl rfl rfl (by decide) hI hF0 rfl (fun _ _ => rfl) rfl (by omega)

set_option maxHeartbeats 4000000 in
set_option maxRecDepth 20000 in
/-- OneRoof$Guests.depart -/
theorem sf_131_64x1 {L : Nat} {xs : Nat → Int} {vb : Bool} {d : Nat} {σ α : Nat → Nat → Int} {κ : Nat → Option Nat} {ρ : Nat} {x2 : Int} {x3 : Int} {os : List Int} (hI : qI σ α κ ρ) (r2 : (-2147483648) ≤ x2 ∧ x2 ≤ 2147483647) (r3 : 0 ≤ x3 ∧ x3 ≤ 9) (p0 : σ 64 2 ≤ 6) (p1 : 0 ≤ σ 64 7 ∧ σ 64 7 ≤ 99) (p2 : 1 ≤ σ 64 2) (p3 : 0 ≤ 1) (p4 : qLs (α 69) 1 os) (p5 : qGo x2 os) (p6 : x3 = qdg os) : qm_T (qe L xs vb) (d + 7) 131 [.ref 64, .int (qz 1), .int (qz x2), .int (qz x3)] (qw σ α κ ρ) (fun r w' => ∃ α', w' = qw σ α' κ ρ ∧ qI σ α' κ ρ ∧ qFr [] [69] σ α σ α' ∧ ∃ v : Int, r = some (.int (qz v)) ∧ ((-2147483648) ≤ v ∧ v ≤ 2147483647) ∧ v = qdp (qLB (fun t i o : Int => qbit (α 68 (t * 6 + i : Int).toNat) o = 1) (σ 64 7)) (σ 64 2 : Int).toNat (σ 64 2 - 1 : Int).toNat os ∧ (∀ j : Nat, (j : Int) < 1 → α' 69 j = α 69 j)) := by
  refine qr_start (d := d + 6) qv_e131 (Nat.le_of_ble_eq_true rfl) ?_
  show qr_W (qe L xs vb) (d + 6) qx_e131 _ (0, [(0, .ref 64), (1, .int (qz 1)), (2, .int (qz x2)), (3, .int (qz x3))], [], _, 0, 0)
  have hF0 := qFr_rf [] [69] σ α
  have hz64_2 : 0 ≤ σ 64 2 ∧ σ 64 2 ≤ 12 := hI.1 64 2
  have hz64_7 : (-2147483648) ≤ σ 64 7 ∧ σ 64 7 ≤ 2147483647 := hI.1 64 7
  refine qr_iload_n 1 rfl rfl rfl ?_
  refine qr_aload_n 2 rfl rfl rfl ?_
  refine qr_get 5 rfl rfl rfl (by decide) rfl ?_
  refine qr_icmp_ge 14 8 rfl rfl rfl (by decide) (qrg hz64_2 (by decide) (by decide)) (fun h1 => ?_) (fun h1 => ?_)
  · skip
    refine qr_iload_n 15 rfl rfl rfl ?_
    refine qr_retI rfl rfl (by decide) (by decide) ?_
    exact ⟨_, rfl, hI, hF0, x3, rfl, (qrg r3 (by decide) (by decide)), (by rw [show (σ 64 2 - 1 : Int).toNat = 0 by omega]; exact p6), (fun _ _ => rfl)⟩
  · skip
    refine qr_iload_n 9 rfl rfl rfl ?_
    refine qr_bipush 11 rfl (by decide) rfl ?_
    refine qr_icmp_lt 16 14 rfl rfl rfl (by decide) (by decide) (fun h2 => ?_) (fun h => False.elim (by omega))
    refine qr_iconst 17 rfl rfl ?_
    refine qr_istore _ 19 rfl (by decide) rfl rfl ?_
    have hL234 : ∀ (n : Nat) (ls : qm_L) (u224 : Int) (α226 : Nat → Nat → Int), 6 - u224 < (n : Int) → qm_get ls 0 = some (.ref 64) → qm_get ls 1 = some (.int (qz 1)) → qm_get ls 2 = some (.int (qz x2)) → qm_get ls 3 = some (.int (qz x3)) → qm_get ls 4 = some (.int (qz u224)) → (0 ≤ u224 ∧ u224 ≤ 6) → qI σ α226 κ ρ → qFr [] [69] σ α σ α226 → α226 68 = (α 68) → (∀ j : Nat, (j : Int) < 1 → α226 69 j = α 69 j) → qfj (qdF (qLB (fun t i o : Int => qbit (α 68 (t * 6 + i : Int).toNat) o = 1) (σ 64 7)) (σ 64 2 : Int).toNat (σ 64 2 - 2 : Int).toNat os) (u224 : Int).toNat = -2 → u224 ≤ σ 64 2 → qr_W (qe L xs vb) (d + 6) qx_e131 (fun r w' => ∃ α', w' = qw σ α' κ ρ ∧ qI σ α' κ ρ ∧ qFr [] [69] σ α σ α' ∧ ∃ v : Int, r = some (.int (qz v)) ∧ ((-2147483648) ≤ v ∧ v ≤ 2147483647) ∧ v = qdp (qLB (fun t i o : Int => qbit (α 68 (t * 6 + i : Int).toNat) o = 1) (σ 64 7)) (σ 64 2 : Int).toNat (σ 64 2 - 1 : Int).toNat os ∧ (∀ j : Nat, (j : Int) < 1 → α' 69 j = α 69 j)) (19, ls, [], qw σ α226 κ ρ, 0, 0) := by
      intro n
      induction n with
      | zero => intro ls u224 α226 hm g219 g220 g221 g222 g223 hf230 hI227 hF228 hk229 hx231 hx232 hx233; exact False.elim (by omega)
      | succ n ih235 =>
        intro ls u224 α226 hm g219 g220 g221 g222 g223 hf230 hI227 hF228 hk229 hx231 hx232 hx233
        refine qr_iload 21 rfl g223 rfl ?_
        refine qr_aload_n 22 rfl g219 rfl ?_
        refine qr_get 25 rfl rfl rfl (by decide) rfl ?_
        refine qr_icmp_ge 99 28 rfl rfl rfl (qrg hf230 (by decide) (by decide)) (qrg hz64_2 (by decide) (by decide)) (fun h236 => ?_) (fun h236 => ?_)
        · skip
          refine qr_bipush 101 rfl (by decide) rfl ?_
          refine qr_retI rfl rfl (by decide) (by decide) ?_
          exact ⟨_, rfl, hI227, hF228, (-2), rfl, (by decide), (by rw [(qdp_s (k := (σ 64 2 - 2 : Int).toNat) (by omega))]; have hz := hx232; rw [show u224 = σ 64 2 by omega] at hz; exact hz.symm), hx231⟩
        · skip
          refine qr_iload_n 29 rfl g221 rfl ?_
          refine qr_i2l 30 rfl r2 rfl ?_
          refine qr_iload 32 rfl g223 rfl ?_
          refine qr_callN 35 rfl rfl rfl (sf_50b (d := d + 5) hI227 (qrg r2 (by decide) (by decide)) (qrg hf230 (by decide) (by decide))) ?_
          rintro _ _ ⟨rfl, v237, rfl, hv237, hp238⟩
          show qr_W (qe L xs vb) (d + 6) qx_e131 _ (35, _, [.int (qz v237)], qw σ α226 κ ρ, 0, 0)
          refine qr_if_ne 93 38 rfl rfl rfl (qrg hv237 (by decide) (by decide)) (fun h239 => ?_) (fun h239 => ?_)
          · skip
            refine qr_iinc _ 96 rfl g223 (by decide) rfl rfl ?_
            refine qr_goto 19 rfl rfl ?_
            exact ih235 _ (u224 + 1) α226 (by omega) (qm_gk g219 (by decide) (Or.inl (by decide))) (qm_gk g220 (by decide) (Or.inl (by decide))) (qm_gk g221 (by decide) (Or.inl (by decide))) (qm_gk g222 (by decide) (Or.inr rfl)) (qm_ge _ _ _) (by omega) hI227 hF228 hk229 hx231 (qfj_go (by omega) hx232 (qdF_b (Or.inl ((p5 u224 (by omega) (by omega)).mp (by have hq := qbit_qbi x2 (i := u224) (by omega); omega))))) (by omega)
          · skip
            refine qr_aload_n 39 rfl g219 rfl ?_
            refine qr_iload_n 40 rfl g220 rfl ?_
            refine qr_iload 42 rfl g223 rfl ?_
            have hs240 : 0 ≤ σ 64 2 ∧ σ 64 2 ≤ 12 := hI227.1 64 2
            have hs241 : (-2147483648) ≤ σ 64 7 ∧ σ 64 7 ≤ 2147483647 := hI227.1 64 7
            refine qr_callN 45 rfl rfl rfl (sf_132_64x (d := d + 4) hI227 (by decide) (by omega) (by omega) (by omega)) ?_
            rintro _ _ ⟨rfl, v242, rfl, hv242, hx243⟩
            rw [hF228.2 68 (by decide)] at hx243
            show qr_W (qe L xs vb) (d + 6) qx_e131 _ (45, _, [.int (qz v242)], qw σ α226 κ ρ, 0, 0)
            refine qr_if_eq 51 48 rfl rfl rfl (qrg hv242 (by decide) (by decide)) (fun h245 => ?_) (fun h245 => ?_)
            · skip
              refine qr_aload_n 52 rfl g219 rfl ?_
              refine qr_get 55 rfl rfl rfl (by decide) rfl ?_
              refine qr_iload_n 56 rfl g220 rfl ?_
              refine qr_iload 58 rfl g223 rfl ?_
              refine qr_iastore 59 rfl (by decide) rfl (by decide) (by decide) rfl ?_
              refine qy_wA (qw_r α226 69 (qzu (α226 69) (1 : Int).toNat u224)) rfl (fun α246 e247 => ?_)
              have hI248 : qI σ α246 κ ρ := by rw [e247]; exact qI_r hI227 69 _ rfl (show 0 ≤ u224 ∧ u224 ≤ 11 by omega)
              have hF249 : qFr [] [69] σ α σ α246 := by rw [e247]; exact qFr_r hF228 69 _ (by decide)
              refine qr_aload_n 60 rfl g219 rfl ?_
              refine qr_iload_n 61 rfl g220 rfl ?_
              refine qr_iconst 62 rfl rfl ?_
              refine qr_iadd 63 rfl rfl ?_
              refine qy_v 2 rfl ?_
              refine qr_iload_n 64 rfl g221 rfl ?_
              refine qr_iconst 65 rfl rfl ?_
              refine qr_iload 67 rfl g223 rfl ?_
              refine qr_ishl 68 rfl rfl ?_
              refine qy_shl1E (N := 5) (by omega) (fun v250 hv250 hev250 => ?_)
              refine qr_ior 69 rfl rfl ?_
              refine qy_canE (fun v251 hv251 hev251 => ?_)
              refine qr_bipush 71 rfl (by decide) rfl ?_
              refine qr_iload_n 72 rfl g222 rfl ?_
              refine qr_imul 73 rfl rfl ?_
              refine qr_iload 75 rfl g223 rfl ?_
              refine qr_iadd 76 rfl rfl ?_
              refine qr_iconst 77 rfl rfl ?_
              refine qr_iadd 78 rfl rfl ?_
              have hs252 : 0 ≤ σ 64 2 ∧ σ 64 2 ≤ 12 := hI248.1 64 2
              have hs253 : (-2147483648) ≤ σ 64 7 ∧ σ 64 7 ≤ 2147483647 := hI248.1 64 7
              refine qr_callN 81 rfl rfl rfl (sf_131_64x2 (d := d + 0) hI248 hv251 (by omega) (by omega) (by omega) (by omega) (by omega) (by have hq := qLs_nx (qLs_ag hx231 p4) (by omega) (((congrFun e247 69).trans (qw_r_eq.trans (congrArg (fun f => qzu f (1 : Int).toNat u224) rfl)))); exact hq) (qGo_app p5 (by omega) (by rw [qz_val hev251 (by omega) (qz_or_r _ _), hev250])) (by rw [qdg_app, ← p6])) ?_
              rintro _ _ ⟨α257, rfl, hI258, hG259, v254, rfl, hv254, hx255, hx256⟩
              have hF260 : qFr [] [69] σ α σ α257 := qFr_t hF249 hG259 (by decide) (by decide)
              rw [hF249.2 68 (by decide)] at hx255
              show qr_W (qe L xs vb) (d + 6) qx_e131 _ (81, _, [.int (qz v254)], qw σ α257 κ ρ, 0, 0)
              refine qr_istore _ 83 rfl (by decide) rfl rfl ?_
              refine qr_iload 85 rfl (qm_ge _ _ _) rfl ?_
              refine qr_bipush 87 rfl (by decide) rfl ?_
              refine qr_icmp_eq 93 90 rfl rfl rfl hv254 (by decide) (fun h261 => ?_) (fun h261 => ?_)
              · skip
                refine qr_iinc _ 96 rfl (qm_gk g223 (by decide) (Or.inr rfl)) (by decide) rfl rfl ?_
                refine qr_goto 19 rfl rfl ?_
                exact ih235 _ (u224 + 1) α257 (by omega) (qm_gk (qm_gk g219 (by decide) (Or.inl (by decide))) (by decide) (Or.inl (by decide))) (qm_gk (qm_gk g220 (by decide) (Or.inl (by decide))) (by decide) (Or.inl (by decide))) (qm_gk (qm_gk g221 (by decide) (Or.inl (by decide))) (by decide) (Or.inl (by decide))) (qm_gk (qm_gk g222 (by decide) (Or.inl (by decide))) (by decide) (Or.inr rfl)) (qm_ge _ _ _) (by omega) hI258 hF260 ((hG259.2 68 (by decide)).trans ((congrFun e247 68).trans ((qw_r_ne (by decide)).trans hk229))) (fun j hj => (hx256 j (by omega)).trans ((qLs_kp (t := 1) (by omega) (((congrFun e247 69).trans (qw_r_eq.trans (congrArg (fun f => qzu f (1 : Int).toNat u224) rfl)))) j hj).trans (hx231 j hj))) (qfj_go (by omega) hx232 (by rw [qdF_n (fun hb => by rcases hx243 with hz | hz; (omega); (exact hz.2 ((qLB_of (t := 1) (i := u224) (qLs_ag hx231 p4) (fun hm => absurd ((p5 u224 (by omega) (by omega)).mpr hm) (by have hq := qbit_qbi x2 (i := u224) (by omega); omega))).mp hb))), ← hx255]; omega)) (by omega)
              · skip
                refine qr_iload 92 rfl (qm_ge _ _ _) rfl ?_
                refine qr_retI rfl rfl (by decide) (by decide) ?_
                exact ⟨_, rfl, hI258, hF260, v254, rfl, hv254, (by rw [(qdp_s (k := (σ 64 2 - 2 : Int).toNat) (by omega))]; exact qfj_hit (i := u224) (by omega) (by omega) hx232 (by rw [qdF_n (fun hb => by rcases hx243 with hz | hz; (omega); (exact hz.2 ((qLB_of (t := 1) (i := u224) (qLs_ag hx231 p4) (fun hm => absurd ((p5 u224 (by omega) (by omega)).mpr hm) (by have hq := qbit_qbi x2 (i := u224) (by omega); omega))).mp hb)))]; exact hx255) (by omega)), (fun j hj => (hx256 j (by omega)).trans ((qLs_kp (t := 1) (by omega) (((congrFun e247 69).trans (qw_r_eq.trans (congrArg (fun f => qzu f (1 : Int).toNat u224) rfl)))) j hj).trans (hx231 j hj)))⟩
            · skip
              refine qr_goto 93 rfl rfl ?_
              refine qr_iinc _ 96 rfl g223 (by decide) rfl rfl ?_
              refine qr_goto 19 rfl rfl ?_
              exact ih235 _ (u224 + 1) α226 (by omega) (qm_gk g219 (by decide) (Or.inl (by decide))) (qm_gk g220 (by decide) (Or.inl (by decide))) (qm_gk g221 (by decide) (Or.inl (by decide))) (qm_gk g222 (by decide) (Or.inr rfl)) (qm_ge _ _ _) (by omega) hI227 hF228 hk229 hx231 (qfj_go (by omega) hx232 (qdF_b ((qLB_of (t := 1) (i := u224) (qLs_ag hx231 p4) (fun hm => absurd ((p5 u224 (by omega) (by omega)).mpr hm) (by have hq := qbit_qbi x2 (i := u224) (by omega); omega))).mpr (by rcases hx243 with hz | hz; (exact hz.2); (omega))))) (by omega)
    exact hL234 ((6 - 0 + 1 : Int)).toNat _ 0 α (by omega) rfl rfl rfl rfl rfl (by decide) hI hF0 rfl (fun _ _ => rfl) rfl (by omega)

set_option maxHeartbeats 4000000 in
set_option maxRecDepth 20000 in
/-- OneRoof$Guests.depart -/
theorem sf_131_64x0 {L : Nat} {xs : Nat → Int} {vb : Bool} {d : Nat} {σ α : Nat → Nat → Int} {κ : Nat → Option Nat} {ρ : Nat} {x2 : Int} {x3 : Int} {os : List Int} (hI : qI σ α κ ρ) (r2 : (-2147483648) ≤ x2 ∧ x2 ≤ 2147483647) (r3 : 0 ≤ x3 ∧ x3 ≤ 0) (p0 : σ 64 2 ≤ 6) (p1 : 0 ≤ σ 64 7 ∧ σ 64 7 ≤ 99) (p2 : 0 ≤ σ 64 2) (p3 : 0 ≤ 0) (p4 : qLs (α 69) 0 os) (p5 : qGo x2 os) (p6 : x3 = qdg os) : qm_T (qe L xs vb) (d + 8) 131 [.ref 64, .int (qz 0), .int (qz x2), .int (qz x3)] (qw σ α κ ρ) (fun r w' => ∃ α', w' = qw σ α' κ ρ ∧ qI σ α' κ ρ ∧ qFr [] [69] σ α σ α' ∧ ∃ v : Int, r = some (.int (qz v)) ∧ ((-2147483648) ≤ v ∧ v ≤ 2147483647) ∧ v = qdp (qLB (fun t i o : Int => qbit (α 68 (t * 6 + i : Int).toNat) o = 1) (σ 64 7)) (σ 64 2 : Int).toNat (σ 64 2 - 0 : Int).toNat os ∧ (∀ j : Nat, (j : Int) < 0 → α' 69 j = α 69 j)) := by
  refine qr_start (d := d + 7) qv_e131 (Nat.le_of_ble_eq_true rfl) ?_
  show qr_W (qe L xs vb) (d + 7) qx_e131 _ (0, [(0, .ref 64), (1, .int (qz 0)), (2, .int (qz x2)), (3, .int (qz x3))], [], _, 0, 0)
  have hF0 := qFr_rf [] [69] σ α
  have hz64_2 : 0 ≤ σ 64 2 ∧ σ 64 2 ≤ 12 := hI.1 64 2
  have hz64_7 : (-2147483648) ≤ σ 64 7 ∧ σ 64 7 ≤ 2147483647 := hI.1 64 7
  refine qr_iload_n 1 rfl rfl rfl ?_
  refine qr_aload_n 2 rfl rfl rfl ?_
  refine qr_get 5 rfl rfl rfl (by decide) rfl ?_
  refine qr_icmp_ge 14 8 rfl rfl rfl (by decide) (qrg hz64_2 (by decide) (by decide)) (fun h1 => ?_) (fun h1 => ?_)
  · skip
    refine qr_iload_n 15 rfl rfl rfl ?_
    refine qr_retI rfl rfl (by decide) (by decide) ?_
    exact ⟨_, rfl, hI, hF0, x3, rfl, (qrg r3 (by decide) (by decide)), (by rw [show (σ 64 2 - 0 : Int).toNat = 0 by omega]; exact p6), (fun _ _ => rfl)⟩
  · skip
    refine qr_iload_n 9 rfl rfl rfl ?_
    refine qr_bipush 11 rfl (by decide) rfl ?_
    refine qr_icmp_lt 16 14 rfl rfl rfl (by decide) (by decide) (fun h2 => ?_) (fun h => False.elim (by omega))
    refine qr_iconst 17 rfl rfl ?_
    refine qr_istore _ 19 rfl (by decide) rfl rfl ?_
    have hL234 : ∀ (n : Nat) (ls : qm_L) (u224 : Int) (α226 : Nat → Nat → Int), 6 - u224 < (n : Int) → qm_get ls 0 = some (.ref 64) → qm_get ls 1 = some (.int (qz 0)) → qm_get ls 2 = some (.int (qz x2)) → qm_get ls 3 = some (.int (qz x3)) → qm_get ls 4 = some (.int (qz u224)) → (0 ≤ u224 ∧ u224 ≤ 6) → qI σ α226 κ ρ → qFr [] [69] σ α σ α226 → α226 68 = (α 68) → (∀ j : Nat, (j : Int) < 0 → α226 69 j = α 69 j) → qfj (qdF (qLB (fun t i o : Int => qbit (α 68 (t * 6 + i : Int).toNat) o = 1) (σ 64 7)) (σ 64 2 : Int).toNat (σ 64 2 - 1 : Int).toNat os) (u224 : Int).toNat = -2 → u224 ≤ σ 64 2 → qr_W (qe L xs vb) (d + 7) qx_e131 (fun r w' => ∃ α', w' = qw σ α' κ ρ ∧ qI σ α' κ ρ ∧ qFr [] [69] σ α σ α' ∧ ∃ v : Int, r = some (.int (qz v)) ∧ ((-2147483648) ≤ v ∧ v ≤ 2147483647) ∧ v = qdp (qLB (fun t i o : Int => qbit (α 68 (t * 6 + i : Int).toNat) o = 1) (σ 64 7)) (σ 64 2 : Int).toNat (σ 64 2 - 0 : Int).toNat os ∧ (∀ j : Nat, (j : Int) < 0 → α' 69 j = α 69 j)) (19, ls, [], qw σ α226 κ ρ, 0, 0) := by
      intro n
      induction n with
      | zero => intro ls u224 α226 hm g219 g220 g221 g222 g223 hf230 hI227 hF228 hk229 hx231 hx232 hx233; exact False.elim (by omega)
      | succ n ih235 =>
        intro ls u224 α226 hm g219 g220 g221 g222 g223 hf230 hI227 hF228 hk229 hx231 hx232 hx233
        refine qr_iload 21 rfl g223 rfl ?_
        refine qr_aload_n 22 rfl g219 rfl ?_
        refine qr_get 25 rfl rfl rfl (by decide) rfl ?_
        refine qr_icmp_ge 99 28 rfl rfl rfl (qrg hf230 (by decide) (by decide)) (qrg hz64_2 (by decide) (by decide)) (fun h236 => ?_) (fun h236 => ?_)
        · skip
          refine qr_bipush 101 rfl (by decide) rfl ?_
          refine qr_retI rfl rfl (by decide) (by decide) ?_
          exact ⟨_, rfl, hI227, hF228, (-2), rfl, (by decide), (by rw [(qdp_s (k := (σ 64 2 - 1 : Int).toNat) (by omega))]; have hz := hx232; rw [show u224 = σ 64 2 by omega] at hz; exact hz.symm), hx231⟩
        · skip
          refine qr_iload_n 29 rfl g221 rfl ?_
          refine qr_i2l 30 rfl r2 rfl ?_
          refine qr_iload 32 rfl g223 rfl ?_
          refine qr_callN 35 rfl rfl rfl (sf_50b (d := d + 6) hI227 (qrg r2 (by decide) (by decide)) (qrg hf230 (by decide) (by decide))) ?_
          rintro _ _ ⟨rfl, v237, rfl, hv237, hp238⟩
          show qr_W (qe L xs vb) (d + 7) qx_e131 _ (35, _, [.int (qz v237)], qw σ α226 κ ρ, 0, 0)
          refine qr_if_ne 93 38 rfl rfl rfl (qrg hv237 (by decide) (by decide)) (fun h239 => ?_) (fun h239 => ?_)
          · skip
            refine qr_iinc _ 96 rfl g223 (by decide) rfl rfl ?_
            refine qr_goto 19 rfl rfl ?_
            exact ih235 _ (u224 + 1) α226 (by omega) (qm_gk g219 (by decide) (Or.inl (by decide))) (qm_gk g220 (by decide) (Or.inl (by decide))) (qm_gk g221 (by decide) (Or.inl (by decide))) (qm_gk g222 (by decide) (Or.inr rfl)) (qm_ge _ _ _) (by omega) hI227 hF228 hk229 hx231 (qfj_go (by omega) hx232 (qdF_b (Or.inl ((p5 u224 (by omega) (by omega)).mp (by have hq := qbit_qbi x2 (i := u224) (by omega); omega))))) (by omega)
          · skip
            refine qr_aload_n 39 rfl g219 rfl ?_
            refine qr_iload_n 40 rfl g220 rfl ?_
            refine qr_iload 42 rfl g223 rfl ?_
            have hs240 : 0 ≤ σ 64 2 ∧ σ 64 2 ≤ 12 := hI227.1 64 2
            have hs241 : (-2147483648) ≤ σ 64 7 ∧ σ 64 7 ≤ 2147483647 := hI227.1 64 7
            refine qr_callN 45 rfl rfl rfl (sf_132_64x (d := d + 5) hI227 (by decide) (by omega) (by omega) (by omega)) ?_
            rintro _ _ ⟨rfl, v242, rfl, hv242, hx243⟩
            rw [hF228.2 68 (by decide)] at hx243
            show qr_W (qe L xs vb) (d + 7) qx_e131 _ (45, _, [.int (qz v242)], qw σ α226 κ ρ, 0, 0)
            refine qr_if_eq 51 48 rfl rfl rfl (qrg hv242 (by decide) (by decide)) (fun h245 => ?_) (fun h245 => ?_)
            · skip
              refine qr_aload_n 52 rfl g219 rfl ?_
              refine qr_get 55 rfl rfl rfl (by decide) rfl ?_
              refine qr_iload_n 56 rfl g220 rfl ?_
              refine qr_iload 58 rfl g223 rfl ?_
              refine qr_iastore 59 rfl (by decide) rfl (by decide) (by decide) rfl ?_
              refine qy_wA (qw_r α226 69 (qzu (α226 69) (0 : Int).toNat u224)) rfl (fun α246 e247 => ?_)
              have hI248 : qI σ α246 κ ρ := by rw [e247]; exact qI_r hI227 69 _ rfl (show 0 ≤ u224 ∧ u224 ≤ 11 by omega)
              have hF249 : qFr [] [69] σ α σ α246 := by rw [e247]; exact qFr_r hF228 69 _ (by decide)
              refine qr_aload_n 60 rfl g219 rfl ?_
              refine qr_iload_n 61 rfl g220 rfl ?_
              refine qr_iconst 62 rfl rfl ?_
              refine qr_iadd 63 rfl rfl ?_
              refine qy_v 1 rfl ?_
              refine qr_iload_n 64 rfl g221 rfl ?_
              refine qr_iconst 65 rfl rfl ?_
              refine qr_iload 67 rfl g223 rfl ?_
              refine qr_ishl 68 rfl rfl ?_
              refine qy_shl1E (N := 5) (by omega) (fun v250 hv250 hev250 => ?_)
              refine qr_ior 69 rfl rfl ?_
              refine qy_canE (fun v251 hv251 hev251 => ?_)
              refine qr_bipush 71 rfl (by decide) rfl ?_
              refine qr_iload_n 72 rfl g222 rfl ?_
              refine qr_imul 73 rfl rfl ?_
              refine qr_iload 75 rfl g223 rfl ?_
              refine qr_iadd 76 rfl rfl ?_
              refine qr_iconst 77 rfl rfl ?_
              refine qr_iadd 78 rfl rfl ?_
              have hs252 : 0 ≤ σ 64 2 ∧ σ 64 2 ≤ 12 := hI248.1 64 2
              have hs253 : (-2147483648) ≤ σ 64 7 ∧ σ 64 7 ≤ 2147483647 := hI248.1 64 7
              refine qr_callN 81 rfl rfl rfl (sf_131_64x1 (d := d + 0) hI248 hv251 (by omega) (by omega) (by omega) (by omega) (by omega) (by have hq := qLs_nx (qLs_ag hx231 p4) (by omega) (((congrFun e247 69).trans (qw_r_eq.trans (congrArg (fun f => qzu f (0 : Int).toNat u224) rfl)))); exact hq) (qGo_app p5 (by omega) (by rw [qz_val hev251 (by omega) (qz_or_r _ _), hev250])) (by rw [qdg_app, ← p6])) ?_
              rintro _ _ ⟨α257, rfl, hI258, hG259, v254, rfl, hv254, hx255, hx256⟩
              have hF260 : qFr [] [69] σ α σ α257 := qFr_t hF249 hG259 (by decide) (by decide)
              rw [hF249.2 68 (by decide)] at hx255
              show qr_W (qe L xs vb) (d + 7) qx_e131 _ (81, _, [.int (qz v254)], qw σ α257 κ ρ, 0, 0)
              refine qr_istore _ 83 rfl (by decide) rfl rfl ?_
              refine qr_iload 85 rfl (qm_ge _ _ _) rfl ?_
              refine qr_bipush 87 rfl (by decide) rfl ?_
              refine qr_icmp_eq 93 90 rfl rfl rfl hv254 (by decide) (fun h261 => ?_) (fun h261 => ?_)
              · skip
                refine qr_iinc _ 96 rfl (qm_gk g223 (by decide) (Or.inr rfl)) (by decide) rfl rfl ?_
                refine qr_goto 19 rfl rfl ?_
                exact ih235 _ (u224 + 1) α257 (by omega) (qm_gk (qm_gk g219 (by decide) (Or.inl (by decide))) (by decide) (Or.inl (by decide))) (qm_gk (qm_gk g220 (by decide) (Or.inl (by decide))) (by decide) (Or.inl (by decide))) (qm_gk (qm_gk g221 (by decide) (Or.inl (by decide))) (by decide) (Or.inl (by decide))) (qm_gk (qm_gk g222 (by decide) (Or.inl (by decide))) (by decide) (Or.inr rfl)) (qm_ge _ _ _) (by omega) hI258 hF260 ((hG259.2 68 (by decide)).trans ((congrFun e247 68).trans ((qw_r_ne (by decide)).trans hk229))) (fun j hj => (hx256 j (by omega)).trans ((qLs_kp (t := 0) (by omega) (((congrFun e247 69).trans (qw_r_eq.trans (congrArg (fun f => qzu f (0 : Int).toNat u224) rfl)))) j hj).trans (hx231 j hj))) (qfj_go (by omega) hx232 (by rw [qdF_n (fun hb => by rcases hx243 with hz | hz; (omega); (exact hz.2 ((qLB_of (t := 0) (i := u224) (qLs_ag hx231 p4) (fun hm => absurd ((p5 u224 (by omega) (by omega)).mpr hm) (by have hq := qbit_qbi x2 (i := u224) (by omega); omega))).mp hb))), ← hx255]; omega)) (by omega)
              · skip
                refine qr_iload 92 rfl (qm_ge _ _ _) rfl ?_
                refine qr_retI rfl rfl (by decide) (by decide) ?_
                exact ⟨_, rfl, hI258, hF260, v254, rfl, hv254, (by rw [(qdp_s (k := (σ 64 2 - 1 : Int).toNat) (by omega))]; exact qfj_hit (i := u224) (by omega) (by omega) hx232 (by rw [qdF_n (fun hb => by rcases hx243 with hz | hz; (omega); (exact hz.2 ((qLB_of (t := 0) (i := u224) (qLs_ag hx231 p4) (fun hm => absurd ((p5 u224 (by omega) (by omega)).mpr hm) (by have hq := qbit_qbi x2 (i := u224) (by omega); omega))).mp hb)))]; exact hx255) (by omega)), (fun j hj => (hx256 j (by omega)).trans ((qLs_kp (t := 0) (by omega) (((congrFun e247 69).trans (qw_r_eq.trans (congrArg (fun f => qzu f (0 : Int).toNat u224) rfl)))) j hj).trans (hx231 j hj)))⟩
            · skip
              refine qr_goto 93 rfl rfl ?_
              refine qr_iinc _ 96 rfl g223 (by decide) rfl rfl ?_
              refine qr_goto 19 rfl rfl ?_
              exact ih235 _ (u224 + 1) α226 (by omega) (qm_gk g219 (by decide) (Or.inl (by decide))) (qm_gk g220 (by decide) (Or.inl (by decide))) (qm_gk g221 (by decide) (Or.inl (by decide))) (qm_gk g222 (by decide) (Or.inr rfl)) (qm_ge _ _ _) (by omega) hI227 hF228 hk229 hx231 (qfj_go (by omega) hx232 (qdF_b ((qLB_of (t := 0) (i := u224) (qLs_ag hx231 p4) (fun hm => absurd ((p5 u224 (by omega) (by omega)).mpr hm) (by have hq := qbit_qbi x2 (i := u224) (by omega); omega))).mpr (by rcases hx243 with hz | hz; (exact hz.2); (omega))))) (by omega)
    exact hL234 ((6 - 0 + 1 : Int)).toNat _ 0 α (by omega) rfl rfl rfl rfl rfl (by decide) hI hF0 rfl (fun _ _ => rfl) rfl (by omega)

set_option maxHeartbeats 4000000 in
set_option maxRecDepth 20000 in
/-- OneRoof$Guests.firstOrder -/
theorem sf_130_64x {L : Nat} {xs : Nat → Int} {vb : Bool} {d : Nat} {σ α : Nat → Nat → Int} {κ : Nat → Option Nat} {ρ : Nat}  (hI : qI σ α κ ρ) (p0 : σ 64 2 ≤ 6) (p1 : 0 ≤ σ 64 7 ∧ σ 64 7 ≤ 99) : qm_T (qe L xs vb) (d + 9) 130 [.ref 64] (qw σ α κ ρ) (fun r w' => ∃ α', w' = qw σ α' κ ρ ∧ qI σ α' κ ρ ∧ qFr [] [69] σ α σ α' ∧ ∃ v : Int, r = some (.int (qz v)) ∧ ((-2147483648) ≤ v ∧ v ≤ 2147483647) ∧ v = qdp (qLB (fun t i o : Int => qbit (α 68 (t * 6 + i : Int).toNat) o = 1) (σ 64 7)) (σ 64 2 : Int).toNat (σ 64 2 : Int).toNat []) := by
  refine qr_start (d := d + 8) qv_e130 (Nat.le_of_ble_eq_true rfl) ?_
  show qr_W (qe L xs vb) (d + 8) qx_e130 _ (0, [(0, .ref 64)], [], _, 0, 0)
  have hF0 := qFr_rf [] [69] σ α
  have hz64_2 : 0 ≤ σ 64 2 ∧ σ 64 2 ≤ 12 := hI.1 64 2
  have hz64_7 : (-2147483648) ≤ σ 64 7 ∧ σ 64 7 ≤ 2147483647 := hI.1 64 7
  refine qr_aload_n 1 rfl rfl rfl ?_
  refine qr_iconst 2 rfl rfl ?_
  refine qr_iconst 3 rfl rfl ?_
  refine qr_iconst 4 rfl rfl ?_
  have hs1 : 0 ≤ σ 64 2 ∧ σ 64 2 ≤ 12 := hI.1 64 2
  have hs2 : (-2147483648) ≤ σ 64 7 ∧ σ 64 7 ≤ 2147483647 := hI.1 64 7
  refine qr_callN 7 rfl rfl rfl (sf_131_64x0 (d := d + 0) hI (by decide) (by decide) (by omega) (by omega) (by omega) (by omega) (qLs_0 _) qGo_0 rfl) ?_
  rintro _ _ ⟨α6, rfl, hI7, hG8, v3, rfl, hv3, hx4, hx5⟩
  have hF9 : qFr [] [69] σ α σ α6 := qFr_t hF0 hG8 (by decide) (by decide)
  show qr_W (qe L xs vb) (d + 8) qx_e130 _ (7, _, [.int (qz v3)], qw σ α6 κ ρ, 0, 0)
  refine qr_retI rfl rfl (by decide) (by decide) ?_
  exact ⟨_, rfl, hI7, hF9, v3, rfl, hv3, (by have hz := hx4; rw [show (σ 64 2 - 0 : Int) = σ 64 2 by omega] at hz; exact hz)⟩

set_option maxHeartbeats 4000000 in
set_option maxRecDepth 20000 in
/-- OneRoof.leave -/
theorem sf_127_16x {L : Nat} {xs : Nat → Int} {vb : Bool} {d : Nat} {σ α : Nat → Nat → Int} {κ : Nat → Option Nat} {ρ : Nat} {x1 : Int} {x2 : Int} {x3 : Int} (hI : qI σ α κ ρ) (r1 : (-9223372036854775808) ≤ x1 ∧ x1 ≤ 9223372036854775807) (r2 : (-2147483648) ≤ x2 ∧ x2 ≤ 2147483647) (r3 : (-2147483648) ≤ x3 ∧ x3 ≤ 2147483647) (p0 : qZp σ α) (p1 : σ 58 10 = 0) (p2 : ∀ c : Nat, c < 496 → α 61 c ≤ σ 58 12) (p3 : ∀ c : Nat, c < 496 → α 63 c ≤ σ 58 12) (p4 : 0 ≤ σ 58 12 ∧ σ 58 12 ≤ 1900000000) : qm_T (qe L xs vb) (d + 10) 127 [.ref 16, .long (ql x1), .int (qz x2), .int (qz x3)] (qw σ α κ ρ) (fun r w' => ∃ σ' α', w' = qw σ' α' κ ρ ∧ qI σ' α' κ ρ ∧ qFr [(58, 11), (58, 12), (64, 2), (64, 7)] [60, 61, 62, 63, 65, 68, 69] σ α σ' α' ∧ ∃ v : Int, r = some (.int (qz v)) ∧ ((-2147483648) ≤ v ∧ v ≤ 2147483647) ∧ ((v = -1 ∧ ¬ (qst x1 (σ 17 6) ∧ 0 ≤ x2 ∧ x2 ≤ 2399 ∧ 100 ≤ x3 ∧ x3 ≤ 2499 ∧ ¬ (ql_and x1 (ql_xor (σ 17 5) (-1))) = 0 ∧ qcn (ql_and x1 (ql_xor (σ 17 5) (-1))) 64 ≤ 6)) ∨ ((qst x1 (σ 17 6) ∧ 0 ≤ x2 ∧ x2 ≤ 2399 ∧ 100 ≤ x3 ∧ x3 ≤ 2499 ∧ ¬ (ql_and x1 (ql_xor (σ 17 5) (-1))) = 0 ∧ qcn (ql_and x1 (ql_xor (σ 17 5) (-1))) 64 ≤ 6) ∧ qLs (α' 65) (σ' 64 2) (qBr (fun k : Nat => qbit (ql_and x1 (ql_xor (σ 17 5) (-1))) (k : Int)) 32) ∧ qTE (fun t i o : Int => qClC σ α (x2 + t * (x3 / 100)) (α' 65 (i : Int).toNat) (α' 65 (o : Int).toNat)) (σ' 64 2) (α' 68) ∧ σ' 64 7 = x3 % 100 / (x3 / 100) ∧ v = qdp (qLB (fun t i o : Int => qbit (α' 68 (t * 6 + i : Int).toNat) o = 1) (σ' 64 7)) (σ' 64 2 : Int).toNat (σ' 64 2 : Int).toNat [])) ∧ (∀ c : Nat, c < 496 → α' 61 c ≤ σ' 58 12) ∧ (∀ c : Nat, c < 496 → α' 63 c ≤ σ' 58 12) ∧ (0 ≤ σ' 58 12 ∧ σ' 58 12 ≤ σ 58 12 + 6)) := by
  refine qr_start (d := d + 9) qv_e127 (Nat.le_of_ble_eq_true rfl) ?_
  show qr_W (qe L xs vb) (d + 9) qx_e127 _ (0, [(0, .ref 16), (1, .long (ql x1)), (3, .int (qz x2)), (4, .int (qz x3))], [], _, 0, 0)
  have hF0 := qFr_rf [(58, 11), (58, 12), (64, 2), (64, 7)] [60, 61, 62, 63, 65, 68, 69] σ α
  have hz58_10 : (-9223372036854775808) ≤ σ 58 10 ∧ σ 58 10 ≤ 9223372036854775807 := hI.1 58 10
  have hz58_12 : (-2147483648) ≤ σ 58 12 ∧ σ 58 12 ≤ 2147483647 := hI.1 58 12
  have hz17_5 : (-9223372036854775808) ≤ σ 17 5 ∧ σ 17 5 ≤ 9223372036854775807 := hI.1 17 5
  have hz17_6 : 0 ≤ σ 17 6 ∧ σ 17 6 ≤ 32 := hI.1 17 6
  have hz27_6 : (-9223372036854775808) ≤ σ 27 6 ∧ σ 27 6 ≤ 9223372036854775807 := hI.1 27 6
  have hz27_7 : 0 ≤ σ 27 7 ∧ σ 27 7 ≤ 40 := hI.1 27 7
  have hz34_7 : 0 ≤ σ 34 7 ∧ σ 34 7 ≤ 60 := hI.1 34 7
  have hz58_11 : (-2147483648) ≤ σ 58 11 ∧ σ 58 11 ≤ 2147483647 := hI.1 58 11
  have hz64_2 : 0 ≤ σ 64 2 ∧ σ 64 2 ≤ 12 := hI.1 64 2
  have hz64_7 : (-2147483648) ≤ σ 64 7 ∧ σ 64 7 ≤ 2147483647 := hI.1 64 7
  refine qr_aload_n 1 rfl rfl rfl ?_
  refine qr_get 4 rfl rfl rfl (by decide) rfl ?_
  refine qr_lload_n 5 rfl rfl rfl ?_
  refine qr_callN 8 rfl rfl rfl (sf_88_17x (d := d + 8) hI r1) ?_
  have hs3 : 0 ≤ σ 17 6 ∧ σ 17 6 ≤ 32 := hI.1 17 6
  rintro _ _ ⟨rfl, v1, rfl, hv1, hp2⟩
  show qr_W (qe L xs vb) (d + 9) qx_e127 _ (8, _, [.int (qz v1)], qw σ α κ ρ, 0, 0)
  refine qr_if_eq 33 11 rfl rfl rfl (qrg hv1 (by decide) (by decide)) (fun h4 => ?_) (fun h4 => ?_)
  · skip
    refine qr_iconst 34 rfl rfl ?_
    refine qr_retI rfl rfl (by decide) (by decide) ?_
    exact ⟨_, _, rfl, hI, hF0, (-1), rfl, (by decide), (Or.inl ⟨rfl, (fun hc => by obtain ⟨c1, c2, c3, c4, c5, c6, c7⟩ := hc; first | omega | (have hz := hp2; rcases hz with hz | hz; (omega); (exact hz.2 c1)))⟩), p2, p3, (by omega)⟩
  · skip
    refine qr_iload_n 12 rfl rfl rfl ?_
    refine qr_callN 15 rfl rfl rfl (sf_62 (d := d + 8) hI r2) ?_
    rintro _ _ ⟨rfl, v5, rfl, hv5, hp6⟩
    show qr_W (qe L xs vb) (d + 9) qx_e127 _ (15, _, [.int (qz v5)], qw σ α κ ρ, 0, 0)
    refine qr_if_eq 33 18 rfl rfl rfl (qrg hv5 (by decide) (by decide)) (fun h7 => ?_) (fun h7 => ?_)
    · skip
      refine qr_iconst 34 rfl rfl ?_
      refine qr_retI rfl rfl (by decide) (by decide) ?_
      exact ⟨_, _, rfl, hI, hF0, (-1), rfl, (by decide), (Or.inl ⟨rfl, (fun hc => by obtain ⟨c1, c2, c3, c4, c5, c6, c7⟩ := hc; first | omega | (have hz := hp2; rcases hz with hz | hz; (omega); (exact hz.2 c1)))⟩), p2, p3, (by omega)⟩
    · skip
      refine qr_iload 20 rfl rfl rfl ?_
      refine qr_bipush 22 rfl (by decide) rfl ?_
      refine qr_icmp_lt 33 25 rfl rfl rfl r3 (by decide) (fun h8 => ?_) (fun h8 => ?_)
      · skip
        refine qr_iconst 34 rfl rfl ?_
        refine qr_retI rfl rfl (by decide) (by decide) ?_
        exact ⟨_, _, rfl, hI, hF0, (-1), rfl, (by decide), (Or.inl ⟨rfl, (fun hc => by obtain ⟨c1, c2, c3, c4, c5, c6, c7⟩ := hc; first | omega | (have hz := hp2; rcases hz with hz | hz; (omega); (exact hz.2 c1)))⟩), p2, p3, (by omega)⟩
      · skip
        refine qr_iload 27 rfl rfl rfl ?_
        refine qr_sipush 30 rfl (by decide) rfl ?_
        refine qr_icmp_le 35 33 rfl rfl rfl r3 (by decide) (fun h9 => ?_) (fun h9 => ?_)
        · skip
          refine qr_lload_n 36 rfl rfl rfl ?_
          refine qr_aload_n 37 rfl rfl rfl ?_
          refine qr_get 40 rfl rfl rfl (by decide) rfl ?_
          refine qr_get 43 rfl rfl rfl (by decide) rfl ?_
          refine qr_ldc2 (-1) 46 rfl (by decide) rfl ?_
          refine qr_lxor 47 rfl rfl ?_
          refine qy_canlE (fun v10 hv10 hev10 => ?_)
          refine qr_land 48 rfl rfl ?_
          refine qy_canlE (fun v11 hv11 hev11 => ?_)
          refine qr_lstore _ 50 rfl (by decide) rfl rfl ?_
          have hv12 : v11 = ql_and x1 (ql_xor (σ 17 5) (-1)) := by rw [ql_val hev11 (by omega) (ql_and_r _ _), ql_val hev10 (by omega) (ql_xor_r _ _)]
          refine qr_lload 52 rfl rfl rfl ?_
          refine qr_bipush 54 rfl (by decide) rfl ?_
          refine qr_callN 57 rfl rfl rfl (sf_109x (d := d + 7) hI hv11 (by decide)) ?_
          rintro _ _ ⟨rfl, v13, rfl, hv13, hp14⟩
          show qr_W (qe L xs vb) (d + 9) qx_e127 _ (57, _, [.int (qz v13)], qw σ α κ ρ, 0, 0)
          refine qr_if_ne 62 60 rfl rfl rfl (qrg hv13 (by decide) (by decide)) (fun h15 => ?_) (fun h15 => ?_)
          · skip
            refine qr_aload_n 63 rfl rfl rfl ?_
            refine qr_get 66 rfl rfl rfl (by decide) rfl ?_
            refine qr_lload 68 rfl rfl rfl ?_
            refine qr_callN 71 rfl rfl rfl (sf_110_64x (d := d + 7) hI hv11 (by omega)) ?_
            rintro _ _ ⟨σ17, α18, rfl, hI19, hG20, rfl, hx16⟩
            have hF21 : qFr [(58, 11), (58, 12), (64, 2), (64, 7)] [60, 61, 62, 63, 65, 68, 69] σ α σ17 α18 := qFr_t hF0 hG20 (by decide) (by decide)
            show qr_W (qe L xs vb) (d + 9) qx_e127 _ (71, _, [], qw σ17 α18 κ ρ, 0, 0)
            rw [hv12] at hx16
            have h622 : 0 ≤ σ17 64 2 ∧ σ17 64 2 ≤ 6 := by have h1 := hx16.1; have h2 := qBr_sm (Q := (fun k : Nat => qbit (ql_and x1 (ql_xor (σ 17 5) (-1))) (k : Int))) (fun k => qbit_r _ _) 32; have h3 := qsm_up (Q := (fun k : Nat => qbit (ql_and x1 (ql_xor (σ 17 5) (-1))) (k : Int))) (fun k => qbit_r _ _) 32 32; have h4 := qcn_sm (ql_and x1 (ql_xor (σ 17 5) (-1))) 64; have h5 : qcn (ql_and x1 (ql_xor (σ 17 5) (-1))) ((64 : Nat) : Int) = qcn (ql_and x1 (ql_xor (σ 17 5) (-1))) 64 := rfl; have h6 : qsm (fun k : Nat => qbit (ql_and x1 (ql_xor (σ 17 5) (-1))) (k : Int)) (32 + 32) = qsm (fun k : Nat => qbit (ql_and x1 (ql_xor (σ 17 5) (-1))) (k : Int)) 64 := rfl; have h7 : qcn (ql_and x1 (ql_xor (σ 17 5) (-1))) 64 ≤ 6 := (by rw [← hv12]; omega); omega
            refine qr_aload_n 72 rfl rfl rfl ?_
            refine qr_get 75 rfl rfl rfl (by decide) rfl ?_
            refine qr_iload_n 76 rfl rfl rfl ?_
            refine qr_iload 78 rfl rfl rfl ?_
            refine qr_bipush 80 rfl (by decide) rfl ?_
            refine qr_idiv 81 rfl (by omega) (by decide) rfl ?_
            refine qr_iload 83 rfl rfl rfl ?_
            refine qr_bipush 85 rfl (by decide) rfl ?_
            refine qr_irem 86 rfl (by omega) (by decide) rfl ?_
            have hs23 : (-9223372036854775808) ≤ σ17 58 10 ∧ σ17 58 10 ≤ 9223372036854775807 := hI19.1 58 10
            have hs24 : σ17 58 10 = (σ 58 10) := (hG20.1 58 10 (by decide)).trans rfl
            have hs25 : (-2147483648) ≤ σ17 58 12 ∧ σ17 58 12 ≤ 2147483647 := hI19.1 58 12
            have hs26 : σ17 58 12 = (σ 58 12) := (hG20.1 58 12 (by decide)).trans rfl
            have hs27 : 0 ≤ σ17 64 2 ∧ σ17 64 2 ≤ 12 := hI19.1 64 2
            refine qr_callN 89 rfl rfl rfl (sf_128_64x (d := d + 4) hI19 (by omega) (by omega) (by omega) (by omega) (fun c hc => by rw [hG20.2 61 (by decide), hG20.1 58 12 (by decide)]; exact p2 c hc) (fun c hc => by rw [hG20.2 63 (by decide), hG20.1 58 12 (by decide)]; exact p3 c hc) (qZp_fr hF21 (by decide) (by decide) p0) ((hF21.1 58 10 (by decide)).trans p1) (by omega)) ?_
            rintro _ _ ⟨σ34, α35, rfl, hI36, hG37, hw31, hw32, hw33, rfl, hx28, hx29, hx30⟩
            have hF38 : qFr [(58, 11), (58, 12), (64, 2), (64, 7)] [60, 61, 62, 63, 65, 68, 69] σ α σ34 α35 := qFr_t hF21 hG37 (by decide) (by decide)
            have hs39 : (-2147483648) ≤ σ34 58 12 ∧ σ34 58 12 ≤ 2147483647 := hI36.1 58 12
            have hs40 : (-2147483648) ≤ σ34 64 7 ∧ σ34 64 7 ≤ 2147483647 := hI36.1 64 7
            show qr_W (qe L xs vb) (d + 9) qx_e127 _ (89, _, [], qw σ34 α35 κ ρ, 0, 0)
            rw [qClC_fr hF21 (by decide) (by decide)] at hx28
            have hdv := qdv (a := x3 % 100) (b := x3 / 100) (by omega) (by omega)
            refine qr_aload_n 90 rfl rfl rfl ?_
            refine qr_get 93 rfl rfl rfl (by decide) rfl ?_
            have hs41 : 0 ≤ σ34 64 2 ∧ σ34 64 2 ≤ 12 := hI36.1 64 2
            have hs42 : (-2147483648) ≤ σ34 64 7 ∧ σ34 64 7 ≤ 2147483647 := hI36.1 64 7
            refine qr_callN 96 rfl rfl rfl (sf_130_64x (d := d + 0) hI36 (by have hw := hG37.1 64 2 (by decide); omega) (by omega)) ?_
            rintro _ _ ⟨α45, rfl, hI46, hG47, v43, rfl, hv43, hx44⟩
            have hF48 : qFr [(58, 11), (58, 12), (64, 2), (64, 7)] [60, 61, 62, 63, 65, 68, 69] σ α σ34 α45 := qFr_t hF38 hG47 (by decide) (by decide)
            show qr_W (qe L xs vb) (d + 9) qx_e127 _ (96, _, [.int (qz v43)], qw σ34 α45 κ ρ, 0, 0)
            refine qr_retI rfl rfl (by decide) (by decide) ?_
            exact ⟨_, _, rfl, hI46, hF48, v43, rfl, hv43, (Or.inr ⟨⟨(by have hz := hp2; rcases hz with hz | hz; (exact hz.2); (exact absurd hz.1 (by omega))), by omega, by omega, by omega, by omega, by rw [← hv12]; omega, by rw [← hv12]; omega⟩, (by rw [hG47.2 65 (by decide), hG37.2 65 (by decide), hG37.1 64 2 (by decide)]; exact hx16), (by rw [hG47.2 65 (by decide), hG37.2 65 (by decide), hG37.1 64 2 (by decide), hG47.2 68 (by decide)]; exact hx28), (by rw [hG47.2 68 (by decide)]; exact ⟨hw33, hx44⟩)⟩), (fun c hc => by rw [hG47.2 61 (by decide)]; exact hx29 c hc), (fun c hc => by rw [hG47.2 63 (by decide)]; exact hx30 c hc), (by have hw1 := hw31; have hw2 := hw32; have hw3 := hG20.1 58 12 (by decide); omega)⟩
          · skip
            refine qr_iconst 61 rfl rfl ?_
            refine qr_retI rfl rfl (by decide) (by decide) ?_
            exact ⟨_, _, rfl, hI, hF0, (-1), rfl, (by decide), (Or.inl ⟨rfl, (fun hc => by obtain ⟨c1, c2, c3, c4, c5, c6, c7⟩ := hc; first | omega | (have hz := hp2; rcases hz with hz | hz; (omega); (exact hz.2 c1)) | (rw [← hv12] at c6 c7; omega))⟩), p2, p3, (by omega)⟩
        · skip
          refine qr_iconst 34 rfl rfl ?_
          refine qr_retI rfl rfl (by decide) (by decide) ?_
          exact ⟨_, _, rfl, hI, hF0, (-1), rfl, (by decide), (Or.inl ⟨rfl, (fun hc => by obtain ⟨c1, c2, c3, c4, c5, c6, c7⟩ := hc; first | omega | (have hz := hp2; rcases hz with hz | hz; (omega); (exact hz.2 c1)))⟩), p2, p3, (by omega)⟩

set_option maxHeartbeats 4000000 in
set_option maxRecDepth 20000 in
/-- OneRoofModel.meets -/
theorem sf_244_86x {L : Nat} {xs : Nat → Int} {vb : Bool} {d : Nat} {σ α : Nat → Nat → Int} {κ : Nat → Option Nat} {ρ : Nat} {x1 : Int} {x2 : Int} {x3 : Int} (hI : qI σ α κ ρ) (r1 : 0 ≤ x1 ∧ x1 ≤ 5) (r2 : 0 ≤ x2 ∧ x2 ≤ 2399) (r3 : 100 ≤ x3 ∧ x3 ≤ 2499) (p0 : 1 ≤ σ 86 6) (p1 : σ 86 43 ≤ 6) (p2 : qZf σ α) (p3 : qZk σ α) (p4 : σ 86 29 = 0) (p5 : qSr (α 110) (σ 86 43) (σ 86 6)) (p6 : x1 < σ 86 43) (p7 : ∀ j : Nat, (j : Int) ≤ x1 → 0 ≤ α 114 j ∧ α 114 j < σ 86 43) (p8 : ∀ j : Nat, (j : Int) < x1 → ¬ α 114 j = α 114 (x1 : Int).toNat) : qm_T (qe L xs vb) (d + 6) 244 [.ref 86, .int (qz x1), .int (qz x2), .int (qz x3)] (qw σ α κ ρ) (fun r w' => ∃ σ' α', w' = qw σ' α' κ ρ ∧ qI σ' α' κ ρ ∧ qFr [(86, 15), (86, 23), (86, 30)] [96] σ α σ' α' ∧ ∃ v : Int, r = some (.int (qz v)) ∧ (0 ≤ v ∧ v ≤ 1) ∧ ((v = 1 ∧ (qAny (fun e : Nat => (e : Int) < x1 ∧ x1 - ((x3 % 100) / (x3 / 100)) ≤ (e : Int) ∧ qClM σ α (x2 + x1 * (x3 / 100)) (α 110 (α 114 (x1 : Int).toNat : Int).toNat) (α 110 (α 114 e : Int).toNat)))) ∨ (v = 0 ∧ ¬ (qAny (fun e : Nat => (e : Int) < x1 ∧ x1 - ((x3 % 100) / (x3 / 100)) ≤ (e : Int) ∧ qClM σ α (x2 + x1 * (x3 / 100)) (α 110 (α 114 (x1 : Int).toNat : Int).toNat) (α 110 (α 114 e : Int).toNat)))))) := by
  refine qr_start (d := d + 5) qv_e244 (Nat.le_of_ble_eq_true rfl) ?_
  show qr_W (qe L xs vb) (d + 5) qx_e244 _ (0, [(0, .ref 86), (1, .int (qz x1)), (2, .int (qz x2)), (3, .int (qz x3))], [], _, 0, 0)
  have hF0 := qFr_rf [(86, 15), (86, 23), (86, 30)] [96] σ α
  have hz86_6 : 0 ≤ σ 86 6 ∧ σ 86 6 ≤ 32 := hI.1 86 6
  have hz86_43 : 0 ≤ σ 86 43 ∧ σ 86 43 ≤ 32 := hI.1 86 43
  have hz86_29 : (-9223372036854775808) ≤ σ 86 29 ∧ σ 86 29 ≤ 9223372036854775807 := hI.1 86 29
  have hz86_11 : 0 ≤ σ 86 11 ∧ σ 86 11 ≤ 61 := hI.1 86 11
  have hz86_16 : 0 ≤ σ 86 16 ∧ σ 86 16 ≤ 40 := hI.1 86 16
  have hz86_22 : (-9223372036854775808) ≤ σ 86 22 ∧ σ 86 22 ≤ 9223372036854775807 := hI.1 86 22
  have hz86_24 : 0 ≤ σ 86 24 ∧ σ 86 24 ≤ 60 := hI.1 86 24
  refine qr_aload_n 1 rfl rfl rfl ?_
  refine qr_get 4 rfl rfl rfl (by decide) rfl ?_
  refine qr_aload_n 5 rfl rfl rfl ?_
  refine qr_get 8 rfl rfl rfl (by decide) rfl ?_
  refine qr_iload_n 9 rfl rfl rfl ?_
  refine qr_iaload 10 rfl rfl (qrgi r1 (by decide) (by decide)) (by decide) rfl ?_
  refine qr_topI (fun v1 hv1 => ?_)
  have hs2 : 0 ≤ v1 ∧ v1 ≤ 5 := by rw [hv1]; exact hI.2.1 114 _ (show _ < 6 from qrgt r1 (by decide) (by decide))
  have hrv1 : v1 = (α 114) (x1 : Int).toNat := hv1
  refine qr_iaload 11 rfl rfl (qrgi hs2 (by decide) (by decide)) (by decide) rfl ?_
  refine qr_topI (fun v3 hv3 => ?_)
  have hs4 : 0 ≤ v3 ∧ v3 ≤ 31 := by rw [hv3]; exact hI.2.1 110 _ (show _ < 32 from qrgt hs2 (by decide) (by decide))
  have hrv3 : v3 = (α 110) (v1 : Int).toNat := hv3
  have hp1 := p7 (x1 : Int).toNat (by omega)
  rw [← hrv1] at hp1
  have hp2 := p5.1 (v1 : Int).toNat (by omega)
  rw [← hrv3] at hp2
  refine qr_istore _ 13 rfl (by decide) rfl rfl ?_
  refine qr_iload_n 14 rfl rfl rfl ?_
  refine qr_iload_n 15 rfl rfl rfl ?_
  refine qr_iload_n 16 rfl rfl rfl ?_
  refine qr_bipush 18 rfl (by decide) rfl ?_
  refine qr_idiv 19 rfl (qrg r3 (by decide) (by decide)) (by decide) rfl ?_
  refine qr_imul 20 rfl rfl ?_
  refine qy_mulE (A := 5) (B := 24) (C := 120) (by omega) (by omega) (by decide) (fun v5 hv5 hmv5 => ?_)
  refine qr_iadd 21 rfl rfl ?_
  refine qr_istore _ 23 rfl (by decide) rfl rfl ?_
  refine qr_iconst 24 rfl rfl ?_
  refine qr_istore _ 26 rfl (by decide) rfl rfl ?_
  have hL393 : ∀ (n : Nat) (ls : qm_L) (u376 : Int) (σ377 α378 : Nat → Nat → Int), 5 - u376 < (n : Int) → qm_get ls 0 = some (.ref 86) → qm_get ls 1 = some (.int (qz x1)) → qm_get ls 3 = some (.int (qz x3)) → qm_get ls 4 = some (.int (qz v3)) → qm_get ls 5 = some (.int (qz (x2 + v5))) → qm_get ls 6 = some (.int (qz u376)) → (0 ≤ u376 ∧ u376 ≤ 5) → qI σ377 α378 κ ρ → qFr [(86, 15), (86, 23), (86, 30)] [96] σ α σ377 α378 → σ377 86 6 = (σ 86 6) → σ377 86 11 = (σ 86 11) → σ377 86 16 = (σ 86 16) → σ377 86 22 = (σ 86 22) → σ377 86 24 = (σ 86 24) → σ377 86 29 = (σ 86 29) → σ377 86 43 = (σ 86 43) → α378 93 = (α 93) → α378 110 = (α 110) → α378 114 = (α 114) → (∀ e : Nat, (e : Int) < u376 → ¬ (x1 - ((x3 % 100) / (x3 / 100)) ≤ (e : Int) ∧ qClM σ α (x2 + x1 * (x3 / 100)) (α 110 (α 114 (x1 : Int).toNat : Int).toNat) (α 110 (α 114 e : Int).toNat))) → qr_W (qe L xs vb) (d + 5) qx_e244 (fun r w' => ∃ σ' α', w' = qw σ' α' κ ρ ∧ qI σ' α' κ ρ ∧ qFr [(86, 15), (86, 23), (86, 30)] [96] σ α σ' α' ∧ ∃ v : Int, r = some (.int (qz v)) ∧ (0 ≤ v ∧ v ≤ 1) ∧ ((v = 1 ∧ (qAny (fun e : Nat => (e : Int) < x1 ∧ x1 - ((x3 % 100) / (x3 / 100)) ≤ (e : Int) ∧ qClM σ α (x2 + x1 * (x3 / 100)) (α 110 (α 114 (x1 : Int).toNat : Int).toNat) (α 110 (α 114 e : Int).toNat)))) ∨ (v = 0 ∧ ¬ (qAny (fun e : Nat => (e : Int) < x1 ∧ x1 - ((x3 % 100) / (x3 / 100)) ≤ (e : Int) ∧ qClM σ α (x2 + x1 * (x3 / 100)) (α 110 (α 114 (x1 : Int).toNat : Int).toNat) (α 110 (α 114 e : Int).toNat)))))) (26, ls, [], qw σ377 α378 κ ρ, 0, 0) := by
    intro n
    induction n with
    | zero => intro ls u376 σ377 α378 hm g370 g371 g372 g373 g374 g375 hf391 hI379 hF380 hk381 hk382 hk383 hk384 hk385 hk386 hk387 hk388 hk389 hk390 hx392; exact False.elim (by omega)
    | succ n ih394 =>
      intro ls u376 σ377 α378 hm g370 g371 g372 g373 g374 g375 hf391 hI379 hF380 hk381 hk382 hk383 hk384 hk385 hk386 hk387 hk388 hk389 hk390 hx392
      refine qr_iload 28 rfl g375 rfl ?_
      refine qr_iload_n 29 rfl g371 rfl ?_
      refine qr_icmp_ge 127 32 rfl rfl rfl (qrg hf391 (by decide) (by decide)) (qrg r1 (by decide) (by decide)) (fun h395 => ?_) (fun h395 => ?_)
      · skip
        refine qr_iconst 128 rfl rfl ?_
        refine qr_retZ rfl rfl (Or.inl rfl) (by decide) (by decide) ?_
        exact ⟨_, _, rfl, hI379, hF380, 0, rfl, (by decide), (Or.inr ⟨rfl, fun hz => by obtain ⟨e, h1, h2, h3⟩ := hz; exact hx392 e (by omega) ⟨h2, h3⟩⟩)⟩
      · skip
        refine qr_aload_n 33 rfl g370 rfl ?_
        refine qr_get 36 rfl rfl rfl (by decide) rfl ?_
        refine qr_aload_n 37 rfl g370 rfl ?_
        refine qr_get 40 rfl rfl rfl (by decide) rfl ?_
        refine qr_iload 42 rfl g375 rfl ?_
        refine qr_iaload 43 rfl rfl (qrgi hf391 (by decide) (by decide)) (by decide) rfl ?_
        refine qr_topI (fun v396 hv396 => ?_)
        have hs397 : 0 ≤ v396 ∧ v396 ≤ 5 := by rw [hv396]; exact hI379.2.1 114 _ (show _ < 6 from qrgt hf391 (by decide) (by decide))
        have hrv396 : v396 = (α 114) (u376 : Int).toNat := hv396.trans (congrFun hk390 _)
        refine qr_iaload 44 rfl rfl (qrgi hs397 (by decide) (by decide)) (by decide) rfl ?_
        refine qr_topI (fun v398 hv398 => ?_)
        have hs399 : 0 ≤ v398 ∧ v398 ≤ 31 := by rw [hv398]; exact hI379.2.1 110 _ (show _ < 32 from qrgt hs397 (by decide) (by decide))
        have hrv398 : v398 = (α 110) (v396 : Int).toNat := hv398.trans (congrFun hk389 _)
        have hq1 := p7 (u376 : Int).toNat (by omega)
        rw [← hrv396] at hq1
        have hq2 := p5.1 (v396 : Int).toNat (by omega)
        rw [← hrv398] at hq2
        have hne : ¬ v3 = v398 := by have hd := p8 (u376 : Int).toNat (by omega); rw [← hrv396, ← hrv1] at hd; intro hz; by_cases c : v396 < v1; (have h1 := p5.2 (v396 : Int).toNat (v1 : Int).toNat (by omega) (by omega); rw [← hrv398, ← hrv3] at h1; omega); (have h1 := p5.2 (v1 : Int).toNat (v396 : Int).toNat (by omega) (by omega); rw [← hrv3, ← hrv398] at h1; omega)
        refine qr_istore _ 46 rfl (by decide) rfl rfl ?_
        refine qr_aload_n 47 rfl (qm_gk g370 (by decide) (Or.inl (by decide))) rfl ?_
        refine qr_get 50 rfl rfl rfl (by decide) rfl ?_
        refine qr_iload 52 rfl (qm_gk g373 (by decide) (Or.inl (by decide))) rfl ?_
        refine qr_iaload 53 rfl rfl (qrgi hs4 (by decide) (by decide)) (by decide) rfl ?_
        refine qr_topI (fun v400 hv400 => ?_)
        have hs401 : (-2147483648) ≤ v400 ∧ v400 ≤ 2147483647 := by rw [hv400]; exact hI379.2.1 93 _ (show _ < 32 from qrgt hs4 (by decide) (by decide))
        have hrv400 : v400 = (α 93) (v3 : Int).toNat := hv400.trans (congrFun hk388 _)
        refine qr_aload_n 54 rfl (qm_gk g370 (by decide) (Or.inl (by decide))) rfl ?_
        refine qr_get 57 rfl rfl rfl (by decide) rfl ?_
        refine qr_iload 59 rfl (qm_ge _ _ _) rfl ?_
        refine qr_iaload 60 rfl rfl (qrgi hs399 (by decide) (by decide)) (by decide) rfl ?_
        refine qr_topI (fun v402 hv402 => ?_)
        have hs403 : (-2147483648) ≤ v402 ∧ v402 ≤ 2147483647 := by rw [hv402]; exact hI379.2.1 93 _ (show _ < 32 from qrgt hs399 (by decide) (by decide))
        have hrv402 : v402 = (α 93) (v398 : Int).toNat := hv402.trans (congrFun hk388 _)
        refine qr_icmp_ne 111 63 rfl rfl rfl hs401 hs403 (fun h404 => ?_) (fun h404 => ?_)
        · skip
          refine qr_iconst 112 rfl rfl ?_
          refine qr_istore _ 114 rfl (by decide) rfl rfl ?_
          refine qr_iload 116 rfl (qm_ge _ _ _) rfl ?_
          refine qr_if_eq 121 119 rfl rfl rfl (by decide) (fun h405 => ?_) (fun h => False.elim (by omega))
          refine qr_iinc _ 124 rfl (qm_gk (qm_gk g375 (by decide) (Or.inr rfl)) (by decide) (Or.inl (by decide))) (by decide) rfl rfl ?_
          refine qr_goto 26 rfl rfl ?_
          exact ih394 _ (u376 + 1) σ377 α378 (by omega) (qm_gk (qm_gk (qm_gk g370 (by decide) (Or.inl (by decide))) (by decide) (Or.inl (by decide))) (by decide) (Or.inl (by decide))) (qm_gk (qm_gk (qm_gk g371 (by decide) (Or.inl (by decide))) (by decide) (Or.inl (by decide))) (by decide) (Or.inl (by decide))) (qm_gk (qm_gk (qm_gk g372 (by decide) (Or.inl (by decide))) (by decide) (Or.inl (by decide))) (by decide) (Or.inl (by decide))) (qm_gk (qm_gk (qm_gk g373 (by decide) (Or.inl (by decide))) (by decide) (Or.inl (by decide))) (by decide) (Or.inl (by decide))) (qm_gk (qm_gk (qm_gk g374 (by decide) (Or.inl (by decide))) (by decide) (Or.inl (by decide))) (by decide) (Or.inr rfl)) (qm_ge _ _ _) (by omega) hI379 hF380 ((hk381).trans rfl) ((hk382).trans rfl) ((hk383).trans rfl) ((hk384).trans rfl) ((hk385).trans rfl) ((hk386).trans rfl) ((hk387).trans rfl) hk388 hk389 hk390 (qfs_n (B := fun e : Nat => (x1 - ((x3 % 100) / (x3 / 100)) ≤ (e : Int) ∧ qClM σ α (x2 + x1 * (x3 / 100)) (α 110 (α 114 (x1 : Int).toNat : Int).toNat) (α 110 (α 114 e : Int).toNat))) (by omega) hx392 (fun hc => by have h1 := hc.2; rw [show (α 110 (α 114 (x1 : Int).toNat : Int).toNat) = v3 from (by rw [← hrv1]; exact hrv3.symm), show (α 110 (α 114 (u376 : Int).toNat : Int).toNat) = v398 from (by rw [← hrv396]; exact hrv398.symm)] at h1; have h2 := h1.2.1; rw [← show v400 = α 93 (v3 : Int).toNat from hrv400, ← show v402 = α 93 (v398 : Int).toNat from hrv402] at h2; omega))
        · skip
          refine qr_iload_n 64 rfl (qm_gk g371 (by decide) (Or.inl (by decide))) rfl ?_
          refine qr_iload 66 rfl (qm_gk g375 (by decide) (Or.inr rfl)) rfl ?_
          refine qr_isub 67 rfl rfl ?_
          refine qr_iload_n 68 rfl (qm_gk g372 (by decide) (Or.inl (by decide))) rfl ?_
          refine qr_bipush 70 rfl (by decide) rfl ?_
          refine qr_idiv 71 rfl (qrg r3 (by decide) (by decide)) (by decide) rfl ?_
          refine qr_imul 72 rfl rfl ?_
          refine qy_mulE (A := 5) (B := 24) (C := 120) (by omega) (by omega) (by decide) (fun v406 hv406 hmv406 => ?_)
          refine qr_iload_n 73 rfl (qm_gk g372 (by decide) (Or.inl (by decide))) rfl ?_
          refine qr_bipush 75 rfl (by decide) rfl ?_
          refine qr_irem 76 rfl (qrg r3 (by decide) (by decide)) (by decide) rfl ?_
          refine qr_icmp_gt 111 79 rfl rfl rfl (by omega) (by omega) (fun h407 => ?_) (fun h407 => ?_)
          · skip
            refine qr_iconst 112 rfl rfl ?_
            refine qr_istore _ 114 rfl (by decide) rfl rfl ?_
            refine qr_iload 116 rfl (qm_ge _ _ _) rfl ?_
            refine qr_if_eq 121 119 rfl rfl rfl (by decide) (fun h408 => ?_) (fun h => False.elim (by omega))
            refine qr_iinc _ 124 rfl (qm_gk (qm_gk g375 (by decide) (Or.inr rfl)) (by decide) (Or.inl (by decide))) (by decide) rfl rfl ?_
            refine qr_goto 26 rfl rfl ?_
            exact ih394 _ (u376 + 1) σ377 α378 (by omega) (qm_gk (qm_gk (qm_gk g370 (by decide) (Or.inl (by decide))) (by decide) (Or.inl (by decide))) (by decide) (Or.inl (by decide))) (qm_gk (qm_gk (qm_gk g371 (by decide) (Or.inl (by decide))) (by decide) (Or.inl (by decide))) (by decide) (Or.inl (by decide))) (qm_gk (qm_gk (qm_gk g372 (by decide) (Or.inl (by decide))) (by decide) (Or.inl (by decide))) (by decide) (Or.inl (by decide))) (qm_gk (qm_gk (qm_gk g373 (by decide) (Or.inl (by decide))) (by decide) (Or.inl (by decide))) (by decide) (Or.inl (by decide))) (qm_gk (qm_gk (qm_gk g374 (by decide) (Or.inl (by decide))) (by decide) (Or.inl (by decide))) (by decide) (Or.inr rfl)) (qm_ge _ _ _) (by omega) hI379 hF380 ((hk381).trans rfl) ((hk382).trans rfl) ((hk383).trans rfl) ((hk384).trans rfl) ((hk385).trans rfl) ((hk386).trans rfl) ((hk387).trans rfl) hk388 hk389 hk390 (qfs_n (B := fun e : Nat => (x1 - ((x3 % 100) / (x3 / 100)) ≤ (e : Int) ∧ qClM σ α (x2 + x1 * (x3 / 100)) (α 110 (α 114 (x1 : Int).toNat : Int).toNat) (α 110 (α 114 e : Int).toNat))) (by omega) hx392 (fun hc => by have hz := (qdv_le (d := x1 - u376) (s := x3 / 100) (f := x3 % 100) (by omega)).mp (by have h1 := hc.1; omega); rw [← hmv406] at hz; omega))
          · skip
            refine qr_aload_n 80 rfl (qm_gk g370 (by decide) (Or.inl (by decide))) rfl ?_
            refine qr_iload 82 rfl (qm_gk g373 (by decide) (Or.inl (by decide))) rfl ?_
            refine qr_iload 84 rfl (qm_ge _ _ _) rfl ?_
            refine qr_iload 86 rfl (qm_gk g374 (by decide) (Or.inl (by decide))) rfl ?_
            have hs409 : 0 ≤ σ377 86 6 ∧ σ377 86 6 ≤ 32 := hI379.1 86 6
            have hs410 : σ377 86 6 = (σ 86 6) := (hk381).trans rfl
            refine qr_callN 89 rfl rfl rfl (sf_195_86x (d := d + 0) hI379 hs4 hs399 (by omega) (qZf_fr hF380 (by decide) (by decide) p2) (by omega)) ?_
            have hs413 : 0 ≤ σ377 86 11 ∧ σ377 86 11 ≤ 61 := hI379.1 86 11
            have hs414 : σ377 86 11 = (σ 86 11) := (hk382).trans rfl
            have hs415 : 0 ≤ σ377 86 16 ∧ σ377 86 16 ≤ 40 := hI379.1 86 16
            have hs416 : σ377 86 16 = (σ 86 16) := (hk383).trans rfl
            have hs417 : (-9223372036854775808) ≤ σ377 86 22 ∧ σ377 86 22 ≤ 9223372036854775807 := hI379.1 86 22
            have hs418 : σ377 86 22 = (σ 86 22) := (hk384).trans rfl
            rintro _ _ ⟨σ419, α420, rfl, hI421, hG422, v411, rfl, hv411, hp412⟩
            have hF423 : qFr [(86, 15), (86, 23), (86, 30)] [96] σ α σ419 α420 := qFr_t hF380 hG422 (by decide) (by decide)
            have hs424 : (-2147483648) ≤ σ419 86 23 ∧ σ419 86 23 ≤ 2147483647 := hI421.1 86 23
            rw [hF380.2 87 (by decide), hF380.2 94 (by decide), hF380.2 95 (by decide), hF380.2 97 (by decide), hF380.2 98 (by decide), hF380.2 99 (by decide), hF380.2 100 (by decide), hF380.1 86 11 (by decide), hF380.1 86 16 (by decide), hF380.1 86 22 (by decide)] at hp412
            show qr_W (qe L xs vb) (d + 5) qx_e244 _ (89, _, [.int (qz v411)], qw σ419 α420 κ ρ, 0, 0)
            rw [hmv5] at hp412
            refine qr_bipush 91 rfl (by decide) rfl ?_
            refine qr_icmp_eq 111 94 rfl rfl rfl (qrg hv411 (by decide) (by decide)) (by decide) (fun h425 => ?_) (fun h425 => ?_)
            · skip
              refine qr_iconst 112 rfl rfl ?_
              refine qr_istore _ 114 rfl (by decide) rfl rfl ?_
              refine qr_iload 116 rfl (qm_ge _ _ _) rfl ?_
              refine qr_if_eq 121 119 rfl rfl rfl (by decide) (fun h426 => ?_) (fun h => False.elim (by omega))
              refine qr_iinc _ 124 rfl (qm_gk (qm_gk g375 (by decide) (Or.inr rfl)) (by decide) (Or.inl (by decide))) (by decide) rfl rfl ?_
              refine qr_goto 26 rfl rfl ?_
              exact ih394 _ (u376 + 1) σ419 α420 (by omega) (qm_gk (qm_gk (qm_gk g370 (by decide) (Or.inl (by decide))) (by decide) (Or.inl (by decide))) (by decide) (Or.inl (by decide))) (qm_gk (qm_gk (qm_gk g371 (by decide) (Or.inl (by decide))) (by decide) (Or.inl (by decide))) (by decide) (Or.inl (by decide))) (qm_gk (qm_gk (qm_gk g372 (by decide) (Or.inl (by decide))) (by decide) (Or.inl (by decide))) (by decide) (Or.inl (by decide))) (qm_gk (qm_gk (qm_gk g373 (by decide) (Or.inl (by decide))) (by decide) (Or.inl (by decide))) (by decide) (Or.inl (by decide))) (qm_gk (qm_gk (qm_gk g374 (by decide) (Or.inl (by decide))) (by decide) (Or.inl (by decide))) (by decide) (Or.inr rfl)) (qm_ge _ _ _) (by omega) hI421 hF423 ((hG422.1 86 6 (by decide)).trans ((hk381).trans rfl)) ((hG422.1 86 11 (by decide)).trans ((hk382).trans rfl)) ((hG422.1 86 16 (by decide)).trans ((hk383).trans rfl)) ((hG422.1 86 22 (by decide)).trans ((hk384).trans rfl)) ((hG422.1 86 24 (by decide)).trans ((hk385).trans rfl)) ((hG422.1 86 29 (by decide)).trans ((hk386).trans rfl)) ((hG422.1 86 43 (by decide)).trans ((hk387).trans rfl)) ((hG422.2 93 (by decide)).trans hk388) ((hG422.2 110 (by decide)).trans hk389) ((hG422.2 114 (by decide)).trans hk390) (qfs_n (B := fun e : Nat => (x1 - ((x3 % 100) / (x3 / 100)) ≤ (e : Int) ∧ qClM σ α (x2 + x1 * (x3 / 100)) (α 110 (α 114 (x1 : Int).toNat : Int).toNat) (α 110 (α 114 e : Int).toNat))) (by omega) hx392 (fun hc => by have h1 := hc.2; rw [show (α 110 (α 114 (x1 : Int).toNat : Int).toNat) = v3 from (by rw [← hrv1]; exact hrv3.symm), show (α 110 (α 114 (u376 : Int).toNat : Int).toNat) = v398 from (by rw [← hrv396]; exact hrv398.symm)] at h1; have h2 := h1.2.2.1; have h3 := h1.1; omega))
            · skip
              refine qr_aload_n 95 rfl (qm_gk g370 (by decide) (Or.inl (by decide))) rfl ?_
              refine qr_iload 97 rfl (qm_gk g373 (by decide) (Or.inl (by decide))) rfl ?_
              refine qr_iload 99 rfl (qm_ge _ _ _) rfl ?_
              refine qr_iload 101 rfl (qm_gk g374 (by decide) (Or.inl (by decide))) rfl ?_
              have hs427 : 0 ≤ σ419 86 6 ∧ σ419 86 6 ≤ 32 := hI421.1 86 6
              have hs428 : σ419 86 6 = (σ 86 6) := (hG422.1 86 6 (by decide)).trans ((hk381).trans rfl)
              refine qr_callN 104 rfl rfl rfl (sf_209_86x (d := d + 1) hI421 hs4 hs399 (by omega) (by omega) (qZk_fr hF423 (by decide) (by decide) p3) (by omega)) ?_
              have hs431 : 0 ≤ σ419 86 24 ∧ σ419 86 24 ≤ 60 := hI421.1 86 24
              have hs432 : σ419 86 24 = (σ 86 24) := (hG422.1 86 24 (by decide)).trans ((hk385).trans rfl)
              have hs433 : (-9223372036854775808) ≤ σ419 86 29 ∧ σ419 86 29 ≤ 9223372036854775807 := hI421.1 86 29
              have hs434 : σ419 86 29 = (σ 86 29) := (hG422.1 86 29 (by decide)).trans ((hk386).trans rfl)
              rintro _ _ ⟨σ435, rfl, hI436, hG437, v429, rfl, hv429, hp430⟩
              have hF438 : qFr [(86, 15), (86, 23), (86, 30)] [96] σ α σ435 α420 := qFr_t hF423 hG437 (by decide) (by decide)
              have hs439 : (-2147483648) ≤ σ435 86 30 ∧ σ435 86 30 ≤ 2147483647 := hI436.1 86 30
              rw [hF423.2 87 (by decide), hF423.2 91 (by decide), hF423.2 102 (by decide), hF423.2 103 (by decide), hF423.2 104 (by decide), hF423.2 105 (by decide), hF423.1 86 24 (by decide), hF423.1 86 29 (by decide)] at hp430
              show qr_W (qe L xs vb) (d + 5) qx_e244 _ (104, _, [.int (qz v429)], qw σ435 α420 κ ρ, 0, 0)
              rw [hmv5, p4, qhG_00] at hp430
              refine qr_if_ne 111 107 rfl rfl rfl (qrg hv429 (by decide) (by decide)) (fun h440 => ?_) (fun h440 => ?_)
              · skip
                refine qr_iconst 112 rfl rfl ?_
                refine qr_istore _ 114 rfl (by decide) rfl rfl ?_
                refine qr_iload 116 rfl (qm_ge _ _ _) rfl ?_
                refine qr_if_eq 121 119 rfl rfl rfl (by decide) (fun h441 => ?_) (fun h => False.elim (by omega))
                refine qr_iinc _ 124 rfl (qm_gk (qm_gk g375 (by decide) (Or.inr rfl)) (by decide) (Or.inl (by decide))) (by decide) rfl rfl ?_
                refine qr_goto 26 rfl rfl ?_
                exact ih394 _ (u376 + 1) σ435 α420 (by omega) (qm_gk (qm_gk (qm_gk g370 (by decide) (Or.inl (by decide))) (by decide) (Or.inl (by decide))) (by decide) (Or.inl (by decide))) (qm_gk (qm_gk (qm_gk g371 (by decide) (Or.inl (by decide))) (by decide) (Or.inl (by decide))) (by decide) (Or.inl (by decide))) (qm_gk (qm_gk (qm_gk g372 (by decide) (Or.inl (by decide))) (by decide) (Or.inl (by decide))) (by decide) (Or.inl (by decide))) (qm_gk (qm_gk (qm_gk g373 (by decide) (Or.inl (by decide))) (by decide) (Or.inl (by decide))) (by decide) (Or.inl (by decide))) (qm_gk (qm_gk (qm_gk g374 (by decide) (Or.inl (by decide))) (by decide) (Or.inl (by decide))) (by decide) (Or.inr rfl)) (qm_ge _ _ _) (by omega) hI436 hF438 ((hG437.1 86 6 (by decide)).trans ((hG422.1 86 6 (by decide)).trans ((hk381).trans rfl))) ((hG437.1 86 11 (by decide)).trans ((hG422.1 86 11 (by decide)).trans ((hk382).trans rfl))) ((hG437.1 86 16 (by decide)).trans ((hG422.1 86 16 (by decide)).trans ((hk383).trans rfl))) ((hG437.1 86 22 (by decide)).trans ((hG422.1 86 22 (by decide)).trans ((hk384).trans rfl))) ((hG437.1 86 24 (by decide)).trans ((hG422.1 86 24 (by decide)).trans ((hk385).trans rfl))) ((hG437.1 86 29 (by decide)).trans ((hG422.1 86 29 (by decide)).trans ((hk386).trans rfl))) ((hG437.1 86 43 (by decide)).trans ((hG422.1 86 43 (by decide)).trans ((hk387).trans rfl))) ((hG422.2 93 (by decide)).trans hk388) ((hG422.2 110 (by decide)).trans hk389) ((hG422.2 114 (by decide)).trans hk390) (qfs_n (B := fun e : Nat => (x1 - ((x3 % 100) / (x3 / 100)) ≤ (e : Int) ∧ qClM σ α (x2 + x1 * (x3 / 100)) (α 110 (α 114 (x1 : Int).toNat : Int).toNat) (α 110 (α 114 e : Int).toNat))) (by omega) hx392 (fun hc => by have h1 := hc.2; rw [show (α 110 (α 114 (x1 : Int).toNat : Int).toNat) = v3 from (by rw [← hrv1]; exact hrv3.symm), show (α 110 (α 114 (u376 : Int).toNat : Int).toNat) = v398 from (by rw [← hrv396]; exact hrv398.symm)] at h1; have h2 := h1.2.2.2; omega))
              · skip
                refine qr_iconst 108 rfl rfl ?_
                refine qr_goto 112 rfl rfl ?_
                refine qr_istore _ 114 rfl (by decide) rfl rfl ?_
                refine qr_iload 116 rfl (qm_ge _ _ _) rfl ?_
                refine qr_if_eq 121 119 rfl rfl rfl (by decide) (fun h => False.elim (by omega)) (fun h442 => ?_)
                refine qr_iconst 120 rfl rfl ?_
                as_aux_lemma =>
                  refine qr_retZ rfl rfl (Or.inr rfl) (by decide) (by decide) ?_
                  exact ⟨_, _, rfl, hI436, hF438, 1, rfl, (by decide), (Or.inl ⟨rfl, (u376 : Int).toNat, by omega, by have hz := (qdv_le (d := x1 - u376) (s := x3 / 100) (f := x3 % 100) (by omega)).mpr (by rw [← hmv406]; omega); omega, (by rw [show (α 110 (α 114 (x1 : Int).toNat : Int).toNat) = v3 from (by rw [← hrv1]; exact hrv3.symm), show (α 110 (α 114 (u376 : Int).toNat : Int).toNat) = v398 from (by rw [← hrv396]; exact hrv398.symm)]; exact ⟨by omega, by rw [← show v400 = α 93 (v3 : Int).toNat from hrv400, ← show v402 = α 93 (v398 : Int).toNat from hrv402]; omega, by omega, by omega⟩)⟩)⟩
  exact hL393 ((5 - 0 + 1 : Int)).toNat _ 0 σ α (by omega) rfl rfl rfl rfl rfl rfl (by decide) hI hF0 (rfl) (rfl) (rfl) (rfl) (rfl) (rfl) (rfl) rfl rfl rfl (fun e h1 => False.elim (by omega))

set_option maxHeartbeats 4000000 in
set_option maxRecDepth 20000 in
/-- OneRoofModel.orders -/
theorem sf_243_86x6 {L : Nat} {xs : Nat → Int} {vb : Bool} {d : Nat} {σ α : Nat → Nat → Int} {κ : Nat → Option Nat} {ρ : Nat} {x2 : Int} {x3 : Int} {x4 : Int} {os : List Int} (hI : qI σ α κ ρ) (r2 : (-2147483648) ≤ x2 ∧ x2 ≤ 2147483647) (r3 : 0 ≤ x3 ∧ x3 ≤ 2399) (r4 : 100 ≤ x4 ∧ x4 ≤ 2499) (p0 : 1 ≤ σ 86 6) (p1 : σ 86 43 ≤ 6) (p2 : qZf σ α) (p3 : qZk σ α) (p4 : σ 86 29 = 0) (p5 : qSr (α 110) (σ 86 43) (σ 86 6)) (p6 : 6 ≤ σ 86 43) (p7 : qLs (α 114) 6 os) (p8 : qGo x2 os) (p9 : ∀ o ∈ os, 0 ≤ o ∧ o < σ 86 43) : qm_T (qe L xs vb) (d + 1) 243 [.ref 86, .int (qz 6), .int (qz x2), .int (qz x3), .int (qz x4)] (qw σ α κ ρ) (fun r w' => ∃ σ' α', w' = qw σ' α' κ ρ ∧ qI σ' α' κ ρ ∧ qFr [(86, 15), (86, 23), (86, 30)] [96, 114] σ α σ' α' ∧ ∃ v : Int, r = some (.int (qz v)) ∧ (0 ≤ v ∧ v ≤ 1) ∧ ((v = 1 ∧ qHas (α' 114) (σ 86 43) (qdp (qLB (fun t i o : Int => qClM σ α (x3 + t * (x4 / 100)) (α 110 (i : Int).toNat) (α 110 (o : Int).toNat)) ((x4 % 100) / (x4 / 100))) (σ 86 43 : Int).toNat (σ 86 43 - 6 : Int).toNat os)) ∨ (v = 0 ∧ qdp (qLB (fun t i o : Int => qClM σ α (x3 + t * (x4 / 100)) (α 110 (i : Int).toNat) (α 110 (o : Int).toNat)) ((x4 % 100) / (x4 / 100))) (σ 86 43 : Int).toNat (σ 86 43 - 6 : Int).toNat os = -2)) ∧ (∀ j : Nat, (j : Int) < 6 → α' 114 j = α 114 j)) := by
  refine qr_start (d := d + 0) qv_e243 (Nat.le_of_ble_eq_true rfl) ?_
  show qr_W (qe L xs vb) (d + 0) qx_e243 _ (0, [(0, .ref 86), (1, .int (qz 6)), (2, .int (qz x2)), (3, .int (qz x3)), (4, .int (qz x4))], [], _, 0, 0)
  have hF0 := qFr_rf [(86, 15), (86, 23), (86, 30)] [96, 114] σ α
  have hz86_6 : 0 ≤ σ 86 6 ∧ σ 86 6 ≤ 32 := hI.1 86 6
  have hz86_43 : 0 ≤ σ 86 43 ∧ σ 86 43 ≤ 32 := hI.1 86 43
  have hz86_29 : (-9223372036854775808) ≤ σ 86 29 ∧ σ 86 29 ≤ 9223372036854775807 := hI.1 86 29
  have hz86_11 : 0 ≤ σ 86 11 ∧ σ 86 11 ≤ 61 := hI.1 86 11
  have hz86_16 : 0 ≤ σ 86 16 ∧ σ 86 16 ≤ 40 := hI.1 86 16
  have hz86_22 : (-9223372036854775808) ≤ σ 86 22 ∧ σ 86 22 ≤ 9223372036854775807 := hI.1 86 22
  have hz86_24 : 0 ≤ σ 86 24 ∧ σ 86 24 ≤ 60 := hI.1 86 24
  refine qr_iload_n 1 rfl rfl rfl ?_
  refine qr_aload_n 2 rfl rfl rfl ?_
  refine qr_get 5 rfl rfl rfl (by decide) rfl ?_
  refine qr_icmp_ne 10 8 rfl rfl rfl (by decide) (qrg hz86_43 (by decide) (by decide)) (fun h => False.elim (by omega)) (fun h1 => ?_)
  refine qr_iconst 9 rfl rfl ?_
  refine qr_retZ rfl rfl (Or.inr rfl) (by decide) (by decide) ?_
  exact ⟨_, _, rfl, hI, hF0, 1, rfl, (by decide), (Or.inl ⟨rfl, os, (by rw [show σ 86 43 = 6 by omega]; exact p7), (show qdp (qLB (fun t i o : Int => qClM σ α (x3 + t * (x4 / 100)) (α 110 (i : Int).toNat) (α 110 (o : Int).toNat)) ((x4 % 100) / (x4 / 100))) (σ 86 43 : Int).toNat (σ 86 43 - 6 : Int).toNat os = qdg os by rw [show (σ 86 43 - 6 : Int).toNat = 0 by omega]; rfl).symm, by rw [(show qdp (qLB (fun t i o : Int => qClM σ α (x3 + t * (x4 / 100)) (α 110 (i : Int).toNat) (α 110 (o : Int).toNat)) ((x4 % 100) / (x4 / 100))) (σ 86 43 : Int).toNat (σ 86 43 - 6 : Int).toNat os = qdg os by rw [show (σ 86 43 - 6 : Int).toNat = 0 by omega]; rfl)]; have hz := qdg_nn _ os rfl (fun o ho => (p9 o ho).1); omega⟩), (fun _ _ => rfl)⟩

set_option maxHeartbeats 4000000 in
set_option maxRecDepth 20000 in
/-- OneRoofModel.orders -/
theorem sf_243_86x5 {L : Nat} {xs : Nat → Int} {vb : Bool} {d : Nat} {σ α : Nat → Nat → Int} {κ : Nat → Option Nat} {ρ : Nat} {x2 : Int} {x3 : Int} {x4 : Int} {os : List Int} (hI : qI σ α κ ρ) (r2 : (-2147483648) ≤ x2 ∧ x2 ≤ 2147483647) (r3 : 0 ≤ x3 ∧ x3 ≤ 2399) (r4 : 100 ≤ x4 ∧ x4 ≤ 2499) (p0 : 1 ≤ σ 86 6) (p1 : σ 86 43 ≤ 6) (p2 : qZf σ α) (p3 : qZk σ α) (p4 : σ 86 29 = 0) (p5 : qSr (α 110) (σ 86 43) (σ 86 6)) (p6 : 5 ≤ σ 86 43) (p7 : qLs (α 114) 5 os) (p8 : qGo x2 os) (p9 : ∀ o ∈ os, 0 ≤ o ∧ o < σ 86 43) : qm_T (qe L xs vb) (d + 7) 243 [.ref 86, .int (qz 5), .int (qz x2), .int (qz x3), .int (qz x4)] (qw σ α κ ρ) (fun r w' => ∃ σ' α', w' = qw σ' α' κ ρ ∧ qI σ' α' κ ρ ∧ qFr [(86, 15), (86, 23), (86, 30)] [96, 114] σ α σ' α' ∧ ∃ v : Int, r = some (.int (qz v)) ∧ (0 ≤ v ∧ v ≤ 1) ∧ ((v = 1 ∧ qHas (α' 114) (σ 86 43) (qdp (qLB (fun t i o : Int => qClM σ α (x3 + t * (x4 / 100)) (α 110 (i : Int).toNat) (α 110 (o : Int).toNat)) ((x4 % 100) / (x4 / 100))) (σ 86 43 : Int).toNat (σ 86 43 - 5 : Int).toNat os)) ∨ (v = 0 ∧ qdp (qLB (fun t i o : Int => qClM σ α (x3 + t * (x4 / 100)) (α 110 (i : Int).toNat) (α 110 (o : Int).toNat)) ((x4 % 100) / (x4 / 100))) (σ 86 43 : Int).toNat (σ 86 43 - 5 : Int).toNat os = -2)) ∧ (∀ j : Nat, (j : Int) < 5 → α' 114 j = α 114 j)) := by
  refine qr_start (d := d + 6) qv_e243 (Nat.le_of_ble_eq_true rfl) ?_
  show qr_W (qe L xs vb) (d + 6) qx_e243 _ (0, [(0, .ref 86), (1, .int (qz 5)), (2, .int (qz x2)), (3, .int (qz x3)), (4, .int (qz x4))], [], _, 0, 0)
  have hF0 := qFr_rf [(86, 15), (86, 23), (86, 30)] [96, 114] σ α
  have hz86_6 : 0 ≤ σ 86 6 ∧ σ 86 6 ≤ 32 := hI.1 86 6
  have hz86_43 : 0 ≤ σ 86 43 ∧ σ 86 43 ≤ 32 := hI.1 86 43
  have hz86_29 : (-9223372036854775808) ≤ σ 86 29 ∧ σ 86 29 ≤ 9223372036854775807 := hI.1 86 29
  have hz86_11 : 0 ≤ σ 86 11 ∧ σ 86 11 ≤ 61 := hI.1 86 11
  have hz86_16 : 0 ≤ σ 86 16 ∧ σ 86 16 ≤ 40 := hI.1 86 16
  have hz86_22 : (-9223372036854775808) ≤ σ 86 22 ∧ σ 86 22 ≤ 9223372036854775807 := hI.1 86 22
  have hz86_24 : 0 ≤ σ 86 24 ∧ σ 86 24 ≤ 60 := hI.1 86 24
  refine qr_iload_n 1 rfl rfl rfl ?_
  refine qr_aload_n 2 rfl rfl rfl ?_
  refine qr_get 5 rfl rfl rfl (by decide) rfl ?_
  refine qr_icmp_ne 10 8 rfl rfl rfl (by decide) (qrg hz86_43 (by decide) (by decide)) (fun h1 => ?_) (fun h1 => ?_)
  · skip
    refine qr_iconst 11 rfl rfl ?_
    refine qr_istore _ 13 rfl (by decide) rfl rfl ?_
    have hL401 : ∀ (n : Nat) (ls : qm_L) (u384 : Int) (σ385 α386 : Nat → Nat → Int), 6 - u384 < (n : Int) → qm_get ls 0 = some (.ref 86) → qm_get ls 1 = some (.int (qz 5)) → qm_get ls 2 = some (.int (qz x2)) → qm_get ls 3 = some (.int (qz x3)) → qm_get ls 4 = some (.int (qz x4)) → qm_get ls 5 = some (.int (qz u384)) → (0 ≤ u384 ∧ u384 ≤ 6) → qI σ385 α386 κ ρ → qFr [(86, 15), (86, 23), (86, 30)] [96, 114] σ α σ385 α386 → σ385 86 6 = (σ 86 6) → σ385 86 11 = (σ 86 11) → σ385 86 16 = (σ 86 16) → σ385 86 22 = (σ 86 22) → σ385 86 24 = (σ 86 24) → σ385 86 29 = (σ 86 29) → σ385 86 43 = (σ 86 43) → α386 110 = (α 110) → (∀ j : Nat, (j : Int) < 5 → α386 114 j = α 114 j) → qfj (qdF (qLB (fun t i o : Int => qClM σ α (x3 + t * (x4 / 100)) (α 110 (i : Int).toNat) (α 110 (o : Int).toNat)) ((x4 % 100) / (x4 / 100))) (σ 86 43 : Int).toNat (σ 86 43 - 6 : Int).toNat os) (u384 : Int).toNat = -2 → u384 ≤ σ 86 43 → qr_W (qe L xs vb) (d + 6) qx_e243 (fun r w' => ∃ σ' α', w' = qw σ' α' κ ρ ∧ qI σ' α' κ ρ ∧ qFr [(86, 15), (86, 23), (86, 30)] [96, 114] σ α σ' α' ∧ ∃ v : Int, r = some (.int (qz v)) ∧ (0 ≤ v ∧ v ≤ 1) ∧ ((v = 1 ∧ qHas (α' 114) (σ 86 43) (qdp (qLB (fun t i o : Int => qClM σ α (x3 + t * (x4 / 100)) (α 110 (i : Int).toNat) (α 110 (o : Int).toNat)) ((x4 % 100) / (x4 / 100))) (σ 86 43 : Int).toNat (σ 86 43 - 5 : Int).toNat os)) ∨ (v = 0 ∧ qdp (qLB (fun t i o : Int => qClM σ α (x3 + t * (x4 / 100)) (α 110 (i : Int).toNat) (α 110 (o : Int).toNat)) ((x4 % 100) / (x4 / 100))) (σ 86 43 : Int).toNat (σ 86 43 - 5 : Int).toNat os = -2)) ∧ (∀ j : Nat, (j : Int) < 5 → α' 114 j = α 114 j)) (13, ls, [], qw σ385 α386 κ ρ, 0, 0) := by
      intro n
      induction n with
      | zero => intro ls u384 σ385 α386 hm g378 g379 g380 g381 g382 g383 hf397 hI387 hF388 hk389 hk390 hk391 hk392 hk393 hk394 hk395 hk396 hx398 hx399 hx400; exact False.elim (by omega)
      | succ n ih402 =>
        intro ls u384 σ385 α386 hm g378 g379 g380 g381 g382 g383 hf397 hI387 hF388 hk389 hk390 hk391 hk392 hk393 hk394 hk395 hk396 hx398 hx399 hx400
        refine qr_iload 15 rfl g383 rfl ?_
        refine qr_aload_n 16 rfl g378 rfl ?_
        refine qr_get 19 rfl rfl rfl (by decide) rfl ?_
        refine qy_v (σ 86 43) ((hk395).trans rfl) ?_
        refine qr_icmp_ge 81 22 rfl rfl rfl (qrg hf397 (by decide) (by decide)) (qrg hz86_43 (by decide) (by decide)) (fun h403 => ?_) (fun h403 => ?_)
        · skip
          refine qr_iconst 82 rfl rfl ?_
          refine qr_retZ rfl rfl (Or.inl rfl) (by decide) (by decide) ?_
          exact ⟨_, _, rfl, hI387, hF388, 0, rfl, (by decide), (Or.inr ⟨rfl, by rw [(qdp_s (k := (σ 86 43 - 6 : Int).toNat) (by omega))]; have hz := hx399; rw [show u384 = σ 86 43 by omega] at hz; exact hz⟩), hx398⟩
        · skip
          refine qr_iload_n 23 rfl g380 rfl ?_
          refine qr_iload 25 rfl g383 rfl ?_
          refine qr_ishr 26 rfl rfl ?_
          refine qy_canE (fun v404 hv404 hev404 => ?_)
          refine qr_iconst 27 rfl rfl ?_
          refine qr_iand 28 rfl rfl ?_
          refine qy_andrE (by omega) (fun v405 hv405 hev405 => ?_)
          refine qr_iconst 29 rfl rfl ?_
          refine qr_icmp_ne 35 32 rfl rfl rfl (by omega) (by decide) (fun h406 => ?_) (fun h406 => ?_)
          · skip
            refine qr_aload_n 36 rfl g378 rfl ?_
            refine qr_get 39 rfl rfl rfl (by decide) rfl ?_
            refine qr_iload_n 40 rfl g379 rfl ?_
            refine qr_iload 42 rfl g383 rfl ?_
            refine qr_iastore 43 rfl (by decide) rfl (by decide) (by decide) rfl ?_
            refine qy_wA (qw_r α386 114 (qzu (α386 114) (5 : Int).toNat u384)) rfl (fun α407 e408 => ?_)
            have hI409 : qI σ385 α407 κ ρ := by rw [e408]; exact qI_r hI387 114 _ rfl (show 0 ≤ u384 ∧ u384 ≤ 5 by omega)
            have hF410 : qFr [(86, 15), (86, 23), (86, 30)] [96, 114] σ α σ385 α407 := by rw [e408]; exact qFr_r hF388 114 _ (by decide)
            refine qr_aload_n 44 rfl g378 rfl ?_
            refine qr_iload_n 45 rfl g379 rfl ?_
            refine qr_iload_n 46 rfl g381 rfl ?_
            refine qr_iload 48 rfl g382 rfl ?_
            have hs411 : (-9223372036854775808) ≤ σ385 86 29 ∧ σ385 86 29 ≤ 9223372036854775807 := hI409.1 86 29
            have hs412 : σ385 86 29 = (σ 86 29) := (hk394).trans rfl
            have hs413 : 0 ≤ σ385 86 43 ∧ σ385 86 43 ≤ 32 := hI409.1 86 43
            have hs414 : σ385 86 43 = (σ 86 43) := (hk395).trans rfl
            have hs415 : 0 ≤ σ385 86 6 ∧ σ385 86 6 ≤ 32 := hI409.1 86 6
            have hs416 : σ385 86 6 = (σ 86 6) := (hk389).trans rfl
            refine qr_callN 51 rfl rfl rfl (sf_244_86x (d := d + 0) hI409 (by decide) r3 r4 (by omega) (by omega) (qZf_fr hF410 (by decide) (by decide) p2) (qZk_fr hF410 (by decide) (by decide) p3) ((hF410.1 86 29 (by decide)).trans p4) (by rw [hF410.2 110 (by decide), hF410.1 86 43 (by decide), hF410.1 86 6 (by decide)]; exact p5) (by omega) (by have hq := qord_r (m := σ 86 43) (by omega) (qLs_ag hx398 p7) (((congrFun e408 114).trans (qw_r_eq.trans (congrArg (fun f => qzu f (5 : Int).toNat u384) rfl)))) p9 (by omega); have hw := hF410.1 86 43 (by decide); rw [hw]; exact hq) (qord_d (by omega) (qLs_ag hx398 p7) (((congrFun e408 114).trans (qw_r_eq.trans (congrArg (fun f => qzu f (5 : Int).toNat u384) rfl)))) (fun hm => absurd ((p8 u384 (by omega) (by omega)).mpr hm) (by have hq := qbi_inS (t := x2) (i := u384) (by omega) hev404 hev405 (by omega); omega)))) ?_
            rintro _ _ ⟨σ419, α420, rfl, hI421, hG422, v417, rfl, hv417, hx418⟩
            have hF423 : qFr [(86, 15), (86, 23), (86, 30)] [96, 114] σ α σ419 α420 := qFr_t hF410 hG422 (by decide) (by decide)
            rw [hF410.2 110 (by decide)] at hx418
            show qr_W (qe L xs vb) (d + 6) qx_e243 _ (51, _, [.int (qz v417)], qw σ419 α420 κ ρ, 0, 0)
            rw [qClM_fr hF410 (by decide) (by decide), show α407 114 (5 : Int).toNat = u384 from qord_a (((congrFun e408 114).trans (qw_r_eq.trans (congrArg (fun f => qzu f (5 : Int).toNat u384) rfl))))] at hx418
            refine qr_if_ne 75 54 rfl rfl rfl (qrg hv417 (by decide) (by decide)) (fun h424 => ?_) (fun h424 => ?_)
            · skip
              refine qr_iinc _ 78 rfl g383 (by decide) rfl rfl ?_
              refine qr_goto 13 rfl rfl ?_
              exact ih402 _ (u384 + 1) σ419 α420 (by omega) (qm_gk g378 (by decide) (Or.inl (by decide))) (qm_gk g379 (by decide) (Or.inl (by decide))) (qm_gk g380 (by decide) (Or.inl (by decide))) (qm_gk g381 (by decide) (Or.inl (by decide))) (qm_gk g382 (by decide) (Or.inr rfl)) (qm_ge _ _ _) (by omega) hI421 hF423 ((hG422.1 86 6 (by decide)).trans ((hk389).trans rfl)) ((hG422.1 86 11 (by decide)).trans ((hk390).trans rfl)) ((hG422.1 86 16 (by decide)).trans ((hk391).trans rfl)) ((hG422.1 86 22 (by decide)).trans ((hk392).trans rfl)) ((hG422.1 86 24 (by decide)).trans ((hk393).trans rfl)) ((hG422.1 86 29 (by decide)).trans ((hk394).trans rfl)) ((hG422.1 86 43 (by decide)).trans ((hk395).trans rfl)) ((hG422.2 110 (by decide)).trans ((congrFun e408 110).trans ((qw_r_ne (by decide)).trans hk396))) (fun j hj => (congrFun (hG422.2 114 (by decide)) j).trans ((qLs_kp (t := 5) (by omega) (((congrFun e408 114).trans (qw_r_eq.trans (congrArg (fun f => qzu f (5 : Int).toNat u384) rfl)))) j hj).trans (hx398 j hj))) (qfj_go (by omega) hx399 (qdF_b (by rcases hx418 with hz | hz; (exact (qLB_of (t := 5) (i := u384) (qord_l (by omega) (qLs_ag hx398 p7) (((congrFun e408 114).trans (qw_r_eq.trans (congrArg (fun f => qzu f (5 : Int).toNat u384) rfl))))) (fun hm => absurd ((p8 u384 (by omega) (by omega)).mpr hm) (by have hq := qbi_inS (t := x2) (i := u384) (by omega) hev404 hev405 (by omega); omega))).mpr hz.2); (omega)))) (by omega)
            · skip
              refine qr_aload_n 55 rfl g378 rfl ?_
              refine qr_iload_n 56 rfl g379 rfl ?_
              refine qr_iconst 57 rfl rfl ?_
              refine qr_iadd 58 rfl rfl ?_
              refine qy_v 6 rfl ?_
              refine qr_iload_n 59 rfl g380 rfl ?_
              refine qr_iconst 60 rfl rfl ?_
              refine qr_iload 62 rfl g383 rfl ?_
              refine qr_ishl 63 rfl rfl ?_
              refine qy_shl1E (N := 5) (by omega) (fun v425 hv425 hev425 => ?_)
              refine qr_ior 64 rfl rfl ?_
              refine qy_canE (fun v426 hv426 hev426 => ?_)
              refine qr_iload_n 65 rfl g381 rfl ?_
              refine qr_iload 67 rfl g382 rfl ?_
              have hs427 : (-9223372036854775808) ≤ σ419 86 29 ∧ σ419 86 29 ≤ 9223372036854775807 := hI421.1 86 29
              have hs428 : σ419 86 29 = (σ 86 29) := (hG422.1 86 29 (by decide)).trans ((hk394).trans rfl)
              have hs429 : 0 ≤ σ419 86 43 ∧ σ419 86 43 ≤ 32 := hI421.1 86 43
              have hs430 : σ419 86 43 = (σ 86 43) := (hG422.1 86 43 (by decide)).trans ((hk395).trans rfl)
              have hs431 : 0 ≤ σ419 86 6 ∧ σ419 86 6 ≤ 32 := hI421.1 86 6
              have hs432 : σ419 86 6 = (σ 86 6) := (hG422.1 86 6 (by decide)).trans ((hk389).trans rfl)
              refine qr_callN 70 rfl rfl rfl (sf_243_86x6 (d := d + 5) hI421 hv426 r3 r4 (by omega) (by omega) (qZf_fr hF423 (by decide) (by decide) p2) (qZk_fr hF423 (by decide) (by decide) p3) ((hF423.1 86 29 (by decide)).trans p4) (by rw [hF423.2 110 (by decide), hF423.1 86 43 (by decide), hF423.1 86 6 (by decide)]; exact p5) (by omega) (by have hq := qLs_nx (qLs_ag hx398 p7) (by omega) (((congrFun e408 114).trans (qw_r_eq.trans (congrArg (fun f => qzu f (5 : Int).toNat u384) rfl)))); rw [← hG422.2 114 (by decide)] at hq; exact hq) (qGo_app p8 (by omega) (by rw [qz_val hev426 (by omega) (qz_or_r _ _), hev425])) (fun o hm => by rw [hF423.1 86 43 (by decide)]; rcases List.mem_append.mp hm with hm | hm; (exact p9 o hm); (rw [List.mem_singleton.mp hm]; omega))) ?_
              rintro _ _ ⟨σ436, α437, rfl, hI438, hG439, v433, rfl, hv433, hx434, hx435⟩
              have hF440 : qFr [(86, 15), (86, 23), (86, 30)] [96, 114] σ α σ436 α437 := qFr_t hF423 hG439 (by decide) (by decide)
              rw [hF423.2 110 (by decide), hF423.1 86 43 (by decide)] at hx434
              show qr_W (qe L xs vb) (d + 6) qx_e243 _ (70, _, [.int (qz v433)], qw σ436 α437 κ ρ, 0, 0)
              rw [qClM_fr hF423 (by decide) (by decide)] at hx434
              refine qr_if_eq 75 73 rfl rfl rfl (qrg hv433 (by decide) (by decide)) (fun h441 => ?_) (fun h441 => ?_)
              · skip
                refine qr_iinc _ 78 rfl g383 (by decide) rfl rfl ?_
                refine qr_goto 13 rfl rfl ?_
                exact ih402 _ (u384 + 1) σ436 α437 (by omega) (qm_gk g378 (by decide) (Or.inl (by decide))) (qm_gk g379 (by decide) (Or.inl (by decide))) (qm_gk g380 (by decide) (Or.inl (by decide))) (qm_gk g381 (by decide) (Or.inl (by decide))) (qm_gk g382 (by decide) (Or.inr rfl)) (qm_ge _ _ _) (by omega) hI438 hF440 ((hG439.1 86 6 (by decide)).trans ((hG422.1 86 6 (by decide)).trans ((hk389).trans rfl))) ((hG439.1 86 11 (by decide)).trans ((hG422.1 86 11 (by decide)).trans ((hk390).trans rfl))) ((hG439.1 86 16 (by decide)).trans ((hG422.1 86 16 (by decide)).trans ((hk391).trans rfl))) ((hG439.1 86 22 (by decide)).trans ((hG422.1 86 22 (by decide)).trans ((hk392).trans rfl))) ((hG439.1 86 24 (by decide)).trans ((hG422.1 86 24 (by decide)).trans ((hk393).trans rfl))) ((hG439.1 86 29 (by decide)).trans ((hG422.1 86 29 (by decide)).trans ((hk394).trans rfl))) ((hG439.1 86 43 (by decide)).trans ((hG422.1 86 43 (by decide)).trans ((hk395).trans rfl))) ((hG439.2 110 (by decide)).trans ((hG422.2 110 (by decide)).trans ((congrFun e408 110).trans ((qw_r_ne (by decide)).trans hk396)))) (fun j hj => (hx435 j (by omega)).trans ((congrFun (hG422.2 114 (by decide)) j).trans ((qLs_kp (t := 5) (by omega) (((congrFun e408 114).trans (qw_r_eq.trans (congrArg (fun f => qzu f (5 : Int).toNat u384) rfl)))) j hj).trans (hx398 j hj)))) (qfj_go (by omega) hx399 (by rw [qdF_n (fun hb => by rcases hx418 with hz | hz; (omega); (exact hz.2 ((qLB_of (t := 5) (i := u384) (qord_l (by omega) (qLs_ag hx398 p7) (((congrFun e408 114).trans (qw_r_eq.trans (congrArg (fun f => qzu f (5 : Int).toNat u384) rfl))))) (fun hm => absurd ((p8 u384 (by omega) (by omega)).mpr hm) (by have hq := qbi_inS (t := x2) (i := u384) (by omega) hev404 hev405 (by omega); omega))).mp hb)))]; rcases hx434 with hz | hz; (omega); (exact hz.2))) (by omega)
              · skip
                refine qr_iconst 74 rfl rfl ?_
                refine qr_retZ rfl rfl (Or.inr rfl) (by decide) (by decide) ?_
                exact ⟨_, _, rfl, hI438, hF440, 1, rfl, (by decide), (by rcases hx434 with hz | hz; (obtain ⟨_, os2, h1, h2, h3⟩ := hz; have hd : qdp (qLB (fun t i o : Int => qClM σ α (x3 + t * (x4 / 100)) (α 110 (i : Int).toNat) (α 110 (o : Int).toNat)) ((x4 % 100) / (x4 / 100))) (σ 86 43 : Int).toNat (σ 86 43 - 5 : Int).toNat os = qdp (qLB (fun t i o : Int => qClM σ α (x3 + t * (x4 / 100)) (α 110 (i : Int).toNat) (α 110 (o : Int).toNat)) ((x4 % 100) / (x4 / 100))) (σ 86 43 : Int).toNat (σ 86 43 - 6 : Int).toNat (os ++ [u384]) := (by rw [(qdp_s (k := (σ 86 43 - 6 : Int).toNat) (by omega))]; exact (qfj_hit (i := u384) (by omega) (by omega) hx399 (qdF_n (fun hb => by rcases hx418 with hz | hz; (omega); (exact hz.2 ((qLB_of (t := 5) (i := u384) (qord_l (by omega) (qLs_ag hx398 p7) (((congrFun e408 114).trans (qw_r_eq.trans (congrArg (fun f => qzu f (5 : Int).toNat u384) rfl))))) (fun hm => absurd ((p8 u384 (by omega) (by omega)).mpr hm) (by have hq := qbi_inS (t := x2) (i := u384) (by omega) hev404 hev405 (by omega); omega))).mp hb)))).symm h3).symm); exact Or.inl ⟨rfl, os2, h1, h2.trans hd.symm, by rw [hd]; exact h3⟩); (omega)), (fun j hj => (hx435 j (by omega)).trans ((congrFun (hG422.2 114 (by decide)) j).trans ((qLs_kp (t := 5) (by omega) (((congrFun e408 114).trans (qw_r_eq.trans (congrArg (fun f => qzu f (5 : Int).toNat u384) rfl)))) j hj).trans (hx398 j hj))))⟩
          · skip
            refine qr_goto 75 rfl rfl ?_
            refine qr_iinc _ 78 rfl g383 (by decide) rfl rfl ?_
            refine qr_goto 13 rfl rfl ?_
            exact ih402 _ (u384 + 1) σ385 α386 (by omega) (qm_gk g378 (by decide) (Or.inl (by decide))) (qm_gk g379 (by decide) (Or.inl (by decide))) (qm_gk g380 (by decide) (Or.inl (by decide))) (qm_gk g381 (by decide) (Or.inl (by decide))) (qm_gk g382 (by decide) (Or.inr rfl)) (qm_ge _ _ _) (by omega) hI387 hF388 ((hk389).trans rfl) ((hk390).trans rfl) ((hk391).trans rfl) ((hk392).trans rfl) ((hk393).trans rfl) ((hk394).trans rfl) ((hk395).trans rfl) hk396 hx398 (qfj_go (by omega) hx399 (qdF_b (Or.inl ((p8 u384 (by omega) (by omega)).mp (by have hq := qbi_inS (t := x2) (i := u384) (by omega) hev404 hev405 (by omega); omega))))) (by omega)
    exact hL401 ((6 - 0 + 1 : Int)).toNat _ 0 σ α (by omega) rfl rfl rfl rfl rfl rfl (by decide) hI hF0 (rfl) (rfl) (rfl) (rfl) (rfl) (rfl) (rfl) rfl (fun _ _ => rfl) rfl (by omega)
  · skip
    refine qr_iconst 9 rfl rfl ?_
    refine qr_retZ rfl rfl (Or.inr rfl) (by decide) (by decide) ?_
    exact ⟨_, _, rfl, hI, hF0, 1, rfl, (by decide), (Or.inl ⟨rfl, os, (by rw [show σ 86 43 = 5 by omega]; exact p7), (show qdp (qLB (fun t i o : Int => qClM σ α (x3 + t * (x4 / 100)) (α 110 (i : Int).toNat) (α 110 (o : Int).toNat)) ((x4 % 100) / (x4 / 100))) (σ 86 43 : Int).toNat (σ 86 43 - 5 : Int).toNat os = qdg os by rw [show (σ 86 43 - 5 : Int).toNat = 0 by omega]; rfl).symm, by rw [(show qdp (qLB (fun t i o : Int => qClM σ α (x3 + t * (x4 / 100)) (α 110 (i : Int).toNat) (α 110 (o : Int).toNat)) ((x4 % 100) / (x4 / 100))) (σ 86 43 : Int).toNat (σ 86 43 - 5 : Int).toNat os = qdg os by rw [show (σ 86 43 - 5 : Int).toNat = 0 by omega]; rfl)]; have hz := qdg_nn _ os rfl (fun o ho => (p9 o ho).1); omega⟩), (fun _ _ => rfl)⟩

set_option maxHeartbeats 4000000 in
set_option maxRecDepth 20000 in
/-- OneRoofModel.orders -/
theorem sf_243_86x4 {L : Nat} {xs : Nat → Int} {vb : Bool} {d : Nat} {σ α : Nat → Nat → Int} {κ : Nat → Option Nat} {ρ : Nat} {x2 : Int} {x3 : Int} {x4 : Int} {os : List Int} (hI : qI σ α κ ρ) (r2 : (-2147483648) ≤ x2 ∧ x2 ≤ 2147483647) (r3 : 0 ≤ x3 ∧ x3 ≤ 2399) (r4 : 100 ≤ x4 ∧ x4 ≤ 2499) (p0 : 1 ≤ σ 86 6) (p1 : σ 86 43 ≤ 6) (p2 : qZf σ α) (p3 : qZk σ α) (p4 : σ 86 29 = 0) (p5 : qSr (α 110) (σ 86 43) (σ 86 6)) (p6 : 4 ≤ σ 86 43) (p7 : qLs (α 114) 4 os) (p8 : qGo x2 os) (p9 : ∀ o ∈ os, 0 ≤ o ∧ o < σ 86 43) : qm_T (qe L xs vb) (d + 8) 243 [.ref 86, .int (qz 4), .int (qz x2), .int (qz x3), .int (qz x4)] (qw σ α κ ρ) (fun r w' => ∃ σ' α', w' = qw σ' α' κ ρ ∧ qI σ' α' κ ρ ∧ qFr [(86, 15), (86, 23), (86, 30)] [96, 114] σ α σ' α' ∧ ∃ v : Int, r = some (.int (qz v)) ∧ (0 ≤ v ∧ v ≤ 1) ∧ ((v = 1 ∧ qHas (α' 114) (σ 86 43) (qdp (qLB (fun t i o : Int => qClM σ α (x3 + t * (x4 / 100)) (α 110 (i : Int).toNat) (α 110 (o : Int).toNat)) ((x4 % 100) / (x4 / 100))) (σ 86 43 : Int).toNat (σ 86 43 - 4 : Int).toNat os)) ∨ (v = 0 ∧ qdp (qLB (fun t i o : Int => qClM σ α (x3 + t * (x4 / 100)) (α 110 (i : Int).toNat) (α 110 (o : Int).toNat)) ((x4 % 100) / (x4 / 100))) (σ 86 43 : Int).toNat (σ 86 43 - 4 : Int).toNat os = -2)) ∧ (∀ j : Nat, (j : Int) < 4 → α' 114 j = α 114 j)) := by
  refine qr_start (d := d + 7) qv_e243 (Nat.le_of_ble_eq_true rfl) ?_
  show qr_W (qe L xs vb) (d + 7) qx_e243 _ (0, [(0, .ref 86), (1, .int (qz 4)), (2, .int (qz x2)), (3, .int (qz x3)), (4, .int (qz x4))], [], _, 0, 0)
  have hF0 := qFr_rf [(86, 15), (86, 23), (86, 30)] [96, 114] σ α
  have hz86_6 : 0 ≤ σ 86 6 ∧ σ 86 6 ≤ 32 := hI.1 86 6
  have hz86_43 : 0 ≤ σ 86 43 ∧ σ 86 43 ≤ 32 := hI.1 86 43
  have hz86_29 : (-9223372036854775808) ≤ σ 86 29 ∧ σ 86 29 ≤ 9223372036854775807 := hI.1 86 29
  have hz86_11 : 0 ≤ σ 86 11 ∧ σ 86 11 ≤ 61 := hI.1 86 11
  have hz86_16 : 0 ≤ σ 86 16 ∧ σ 86 16 ≤ 40 := hI.1 86 16
  have hz86_22 : (-9223372036854775808) ≤ σ 86 22 ∧ σ 86 22 ≤ 9223372036854775807 := hI.1 86 22
  have hz86_24 : 0 ≤ σ 86 24 ∧ σ 86 24 ≤ 60 := hI.1 86 24
  refine qr_iload_n 1 rfl rfl rfl ?_
  refine qr_aload_n 2 rfl rfl rfl ?_
  refine qr_get 5 rfl rfl rfl (by decide) rfl ?_
  refine qr_icmp_ne 10 8 rfl rfl rfl (by decide) (qrg hz86_43 (by decide) (by decide)) (fun h1 => ?_) (fun h1 => ?_)
  · skip
    refine qr_iconst 11 rfl rfl ?_
    refine qr_istore _ 13 rfl (by decide) rfl rfl ?_
    have hL401 : ∀ (n : Nat) (ls : qm_L) (u384 : Int) (σ385 α386 : Nat → Nat → Int), 6 - u384 < (n : Int) → qm_get ls 0 = some (.ref 86) → qm_get ls 1 = some (.int (qz 4)) → qm_get ls 2 = some (.int (qz x2)) → qm_get ls 3 = some (.int (qz x3)) → qm_get ls 4 = some (.int (qz x4)) → qm_get ls 5 = some (.int (qz u384)) → (0 ≤ u384 ∧ u384 ≤ 6) → qI σ385 α386 κ ρ → qFr [(86, 15), (86, 23), (86, 30)] [96, 114] σ α σ385 α386 → σ385 86 6 = (σ 86 6) → σ385 86 11 = (σ 86 11) → σ385 86 16 = (σ 86 16) → σ385 86 22 = (σ 86 22) → σ385 86 24 = (σ 86 24) → σ385 86 29 = (σ 86 29) → σ385 86 43 = (σ 86 43) → α386 110 = (α 110) → (∀ j : Nat, (j : Int) < 4 → α386 114 j = α 114 j) → qfj (qdF (qLB (fun t i o : Int => qClM σ α (x3 + t * (x4 / 100)) (α 110 (i : Int).toNat) (α 110 (o : Int).toNat)) ((x4 % 100) / (x4 / 100))) (σ 86 43 : Int).toNat (σ 86 43 - 5 : Int).toNat os) (u384 : Int).toNat = -2 → u384 ≤ σ 86 43 → qr_W (qe L xs vb) (d + 7) qx_e243 (fun r w' => ∃ σ' α', w' = qw σ' α' κ ρ ∧ qI σ' α' κ ρ ∧ qFr [(86, 15), (86, 23), (86, 30)] [96, 114] σ α σ' α' ∧ ∃ v : Int, r = some (.int (qz v)) ∧ (0 ≤ v ∧ v ≤ 1) ∧ ((v = 1 ∧ qHas (α' 114) (σ 86 43) (qdp (qLB (fun t i o : Int => qClM σ α (x3 + t * (x4 / 100)) (α 110 (i : Int).toNat) (α 110 (o : Int).toNat)) ((x4 % 100) / (x4 / 100))) (σ 86 43 : Int).toNat (σ 86 43 - 4 : Int).toNat os)) ∨ (v = 0 ∧ qdp (qLB (fun t i o : Int => qClM σ α (x3 + t * (x4 / 100)) (α 110 (i : Int).toNat) (α 110 (o : Int).toNat)) ((x4 % 100) / (x4 / 100))) (σ 86 43 : Int).toNat (σ 86 43 - 4 : Int).toNat os = -2)) ∧ (∀ j : Nat, (j : Int) < 4 → α' 114 j = α 114 j)) (13, ls, [], qw σ385 α386 κ ρ, 0, 0) := by
      intro n
      induction n with
      | zero => intro ls u384 σ385 α386 hm g378 g379 g380 g381 g382 g383 hf397 hI387 hF388 hk389 hk390 hk391 hk392 hk393 hk394 hk395 hk396 hx398 hx399 hx400; exact False.elim (by omega)
      | succ n ih402 =>
        intro ls u384 σ385 α386 hm g378 g379 g380 g381 g382 g383 hf397 hI387 hF388 hk389 hk390 hk391 hk392 hk393 hk394 hk395 hk396 hx398 hx399 hx400
        refine qr_iload 15 rfl g383 rfl ?_
        refine qr_aload_n 16 rfl g378 rfl ?_
        refine qr_get 19 rfl rfl rfl (by decide) rfl ?_
        refine qy_v (σ 86 43) ((hk395).trans rfl) ?_
        refine qr_icmp_ge 81 22 rfl rfl rfl (qrg hf397 (by decide) (by decide)) (qrg hz86_43 (by decide) (by decide)) (fun h403 => ?_) (fun h403 => ?_)
        · skip
          refine qr_iconst 82 rfl rfl ?_
          refine qr_retZ rfl rfl (Or.inl rfl) (by decide) (by decide) ?_
          exact ⟨_, _, rfl, hI387, hF388, 0, rfl, (by decide), (Or.inr ⟨rfl, by rw [(qdp_s (k := (σ 86 43 - 5 : Int).toNat) (by omega))]; have hz := hx399; rw [show u384 = σ 86 43 by omega] at hz; exact hz⟩), hx398⟩
        · skip
          refine qr_iload_n 23 rfl g380 rfl ?_
          refine qr_iload 25 rfl g383 rfl ?_
          refine qr_ishr 26 rfl rfl ?_
          refine qy_canE (fun v404 hv404 hev404 => ?_)
          refine qr_iconst 27 rfl rfl ?_
          refine qr_iand 28 rfl rfl ?_
          refine qy_andrE (by omega) (fun v405 hv405 hev405 => ?_)
          refine qr_iconst 29 rfl rfl ?_
          refine qr_icmp_ne 35 32 rfl rfl rfl (by omega) (by decide) (fun h406 => ?_) (fun h406 => ?_)
          · skip
            refine qr_aload_n 36 rfl g378 rfl ?_
            refine qr_get 39 rfl rfl rfl (by decide) rfl ?_
            refine qr_iload_n 40 rfl g379 rfl ?_
            refine qr_iload 42 rfl g383 rfl ?_
            refine qr_iastore 43 rfl (by decide) rfl (by decide) (by decide) rfl ?_
            refine qy_wA (qw_r α386 114 (qzu (α386 114) (4 : Int).toNat u384)) rfl (fun α407 e408 => ?_)
            have hI409 : qI σ385 α407 κ ρ := by rw [e408]; exact qI_r hI387 114 _ rfl (show 0 ≤ u384 ∧ u384 ≤ 5 by omega)
            have hF410 : qFr [(86, 15), (86, 23), (86, 30)] [96, 114] σ α σ385 α407 := by rw [e408]; exact qFr_r hF388 114 _ (by decide)
            refine qr_aload_n 44 rfl g378 rfl ?_
            refine qr_iload_n 45 rfl g379 rfl ?_
            refine qr_iload_n 46 rfl g381 rfl ?_
            refine qr_iload 48 rfl g382 rfl ?_
            have hs411 : (-9223372036854775808) ≤ σ385 86 29 ∧ σ385 86 29 ≤ 9223372036854775807 := hI409.1 86 29
            have hs412 : σ385 86 29 = (σ 86 29) := (hk394).trans rfl
            have hs413 : 0 ≤ σ385 86 43 ∧ σ385 86 43 ≤ 32 := hI409.1 86 43
            have hs414 : σ385 86 43 = (σ 86 43) := (hk395).trans rfl
            have hs415 : 0 ≤ σ385 86 6 ∧ σ385 86 6 ≤ 32 := hI409.1 86 6
            have hs416 : σ385 86 6 = (σ 86 6) := (hk389).trans rfl
            refine qr_callN 51 rfl rfl rfl (sf_244_86x (d := d + 1) hI409 (by decide) r3 r4 (by omega) (by omega) (qZf_fr hF410 (by decide) (by decide) p2) (qZk_fr hF410 (by decide) (by decide) p3) ((hF410.1 86 29 (by decide)).trans p4) (by rw [hF410.2 110 (by decide), hF410.1 86 43 (by decide), hF410.1 86 6 (by decide)]; exact p5) (by omega) (by have hq := qord_r (m := σ 86 43) (by omega) (qLs_ag hx398 p7) (((congrFun e408 114).trans (qw_r_eq.trans (congrArg (fun f => qzu f (4 : Int).toNat u384) rfl)))) p9 (by omega); have hw := hF410.1 86 43 (by decide); rw [hw]; exact hq) (qord_d (by omega) (qLs_ag hx398 p7) (((congrFun e408 114).trans (qw_r_eq.trans (congrArg (fun f => qzu f (4 : Int).toNat u384) rfl)))) (fun hm => absurd ((p8 u384 (by omega) (by omega)).mpr hm) (by have hq := qbi_inS (t := x2) (i := u384) (by omega) hev404 hev405 (by omega); omega)))) ?_
            rintro _ _ ⟨σ419, α420, rfl, hI421, hG422, v417, rfl, hv417, hx418⟩
            have hF423 : qFr [(86, 15), (86, 23), (86, 30)] [96, 114] σ α σ419 α420 := qFr_t hF410 hG422 (by decide) (by decide)
            rw [hF410.2 110 (by decide)] at hx418
            show qr_W (qe L xs vb) (d + 7) qx_e243 _ (51, _, [.int (qz v417)], qw σ419 α420 κ ρ, 0, 0)
            rw [qClM_fr hF410 (by decide) (by decide), show α407 114 (4 : Int).toNat = u384 from qord_a (((congrFun e408 114).trans (qw_r_eq.trans (congrArg (fun f => qzu f (4 : Int).toNat u384) rfl))))] at hx418
            refine qr_if_ne 75 54 rfl rfl rfl (qrg hv417 (by decide) (by decide)) (fun h424 => ?_) (fun h424 => ?_)
            · skip
              refine qr_iinc _ 78 rfl g383 (by decide) rfl rfl ?_
              refine qr_goto 13 rfl rfl ?_
              exact ih402 _ (u384 + 1) σ419 α420 (by omega) (qm_gk g378 (by decide) (Or.inl (by decide))) (qm_gk g379 (by decide) (Or.inl (by decide))) (qm_gk g380 (by decide) (Or.inl (by decide))) (qm_gk g381 (by decide) (Or.inl (by decide))) (qm_gk g382 (by decide) (Or.inr rfl)) (qm_ge _ _ _) (by omega) hI421 hF423 ((hG422.1 86 6 (by decide)).trans ((hk389).trans rfl)) ((hG422.1 86 11 (by decide)).trans ((hk390).trans rfl)) ((hG422.1 86 16 (by decide)).trans ((hk391).trans rfl)) ((hG422.1 86 22 (by decide)).trans ((hk392).trans rfl)) ((hG422.1 86 24 (by decide)).trans ((hk393).trans rfl)) ((hG422.1 86 29 (by decide)).trans ((hk394).trans rfl)) ((hG422.1 86 43 (by decide)).trans ((hk395).trans rfl)) ((hG422.2 110 (by decide)).trans ((congrFun e408 110).trans ((qw_r_ne (by decide)).trans hk396))) (fun j hj => (congrFun (hG422.2 114 (by decide)) j).trans ((qLs_kp (t := 4) (by omega) (((congrFun e408 114).trans (qw_r_eq.trans (congrArg (fun f => qzu f (4 : Int).toNat u384) rfl)))) j hj).trans (hx398 j hj))) (qfj_go (by omega) hx399 (qdF_b (by rcases hx418 with hz | hz; (exact (qLB_of (t := 4) (i := u384) (qord_l (by omega) (qLs_ag hx398 p7) (((congrFun e408 114).trans (qw_r_eq.trans (congrArg (fun f => qzu f (4 : Int).toNat u384) rfl))))) (fun hm => absurd ((p8 u384 (by omega) (by omega)).mpr hm) (by have hq := qbi_inS (t := x2) (i := u384) (by omega) hev404 hev405 (by omega); omega))).mpr hz.2); (omega)))) (by omega)
            · skip
              refine qr_aload_n 55 rfl g378 rfl ?_
              refine qr_iload_n 56 rfl g379 rfl ?_
              refine qr_iconst 57 rfl rfl ?_
              refine qr_iadd 58 rfl rfl ?_
              refine qy_v 5 rfl ?_
              refine qr_iload_n 59 rfl g380 rfl ?_
              refine qr_iconst 60 rfl rfl ?_
              refine qr_iload 62 rfl g383 rfl ?_
              refine qr_ishl 63 rfl rfl ?_
              refine qy_shl1E (N := 5) (by omega) (fun v425 hv425 hev425 => ?_)
              refine qr_ior 64 rfl rfl ?_
              refine qy_canE (fun v426 hv426 hev426 => ?_)
              refine qr_iload_n 65 rfl g381 rfl ?_
              refine qr_iload 67 rfl g382 rfl ?_
              have hs427 : (-9223372036854775808) ≤ σ419 86 29 ∧ σ419 86 29 ≤ 9223372036854775807 := hI421.1 86 29
              have hs428 : σ419 86 29 = (σ 86 29) := (hG422.1 86 29 (by decide)).trans ((hk394).trans rfl)
              have hs429 : 0 ≤ σ419 86 43 ∧ σ419 86 43 ≤ 32 := hI421.1 86 43
              have hs430 : σ419 86 43 = (σ 86 43) := (hG422.1 86 43 (by decide)).trans ((hk395).trans rfl)
              have hs431 : 0 ≤ σ419 86 6 ∧ σ419 86 6 ≤ 32 := hI421.1 86 6
              have hs432 : σ419 86 6 = (σ 86 6) := (hG422.1 86 6 (by decide)).trans ((hk389).trans rfl)
              refine qr_callN 70 rfl rfl rfl (sf_243_86x5 (d := d + 0) hI421 hv426 r3 r4 (by omega) (by omega) (qZf_fr hF423 (by decide) (by decide) p2) (qZk_fr hF423 (by decide) (by decide) p3) ((hF423.1 86 29 (by decide)).trans p4) (by rw [hF423.2 110 (by decide), hF423.1 86 43 (by decide), hF423.1 86 6 (by decide)]; exact p5) (by omega) (by have hq := qLs_nx (qLs_ag hx398 p7) (by omega) (((congrFun e408 114).trans (qw_r_eq.trans (congrArg (fun f => qzu f (4 : Int).toNat u384) rfl)))); rw [← hG422.2 114 (by decide)] at hq; exact hq) (qGo_app p8 (by omega) (by rw [qz_val hev426 (by omega) (qz_or_r _ _), hev425])) (fun o hm => by rw [hF423.1 86 43 (by decide)]; rcases List.mem_append.mp hm with hm | hm; (exact p9 o hm); (rw [List.mem_singleton.mp hm]; omega))) ?_
              rintro _ _ ⟨σ436, α437, rfl, hI438, hG439, v433, rfl, hv433, hx434, hx435⟩
              have hF440 : qFr [(86, 15), (86, 23), (86, 30)] [96, 114] σ α σ436 α437 := qFr_t hF423 hG439 (by decide) (by decide)
              rw [hF423.2 110 (by decide), hF423.1 86 43 (by decide)] at hx434
              show qr_W (qe L xs vb) (d + 7) qx_e243 _ (70, _, [.int (qz v433)], qw σ436 α437 κ ρ, 0, 0)
              rw [qClM_fr hF423 (by decide) (by decide)] at hx434
              refine qr_if_eq 75 73 rfl rfl rfl (qrg hv433 (by decide) (by decide)) (fun h441 => ?_) (fun h441 => ?_)
              · skip
                refine qr_iinc _ 78 rfl g383 (by decide) rfl rfl ?_
                refine qr_goto 13 rfl rfl ?_
                exact ih402 _ (u384 + 1) σ436 α437 (by omega) (qm_gk g378 (by decide) (Or.inl (by decide))) (qm_gk g379 (by decide) (Or.inl (by decide))) (qm_gk g380 (by decide) (Or.inl (by decide))) (qm_gk g381 (by decide) (Or.inl (by decide))) (qm_gk g382 (by decide) (Or.inr rfl)) (qm_ge _ _ _) (by omega) hI438 hF440 ((hG439.1 86 6 (by decide)).trans ((hG422.1 86 6 (by decide)).trans ((hk389).trans rfl))) ((hG439.1 86 11 (by decide)).trans ((hG422.1 86 11 (by decide)).trans ((hk390).trans rfl))) ((hG439.1 86 16 (by decide)).trans ((hG422.1 86 16 (by decide)).trans ((hk391).trans rfl))) ((hG439.1 86 22 (by decide)).trans ((hG422.1 86 22 (by decide)).trans ((hk392).trans rfl))) ((hG439.1 86 24 (by decide)).trans ((hG422.1 86 24 (by decide)).trans ((hk393).trans rfl))) ((hG439.1 86 29 (by decide)).trans ((hG422.1 86 29 (by decide)).trans ((hk394).trans rfl))) ((hG439.1 86 43 (by decide)).trans ((hG422.1 86 43 (by decide)).trans ((hk395).trans rfl))) ((hG439.2 110 (by decide)).trans ((hG422.2 110 (by decide)).trans ((congrFun e408 110).trans ((qw_r_ne (by decide)).trans hk396)))) (fun j hj => (hx435 j (by omega)).trans ((congrFun (hG422.2 114 (by decide)) j).trans ((qLs_kp (t := 4) (by omega) (((congrFun e408 114).trans (qw_r_eq.trans (congrArg (fun f => qzu f (4 : Int).toNat u384) rfl)))) j hj).trans (hx398 j hj)))) (qfj_go (by omega) hx399 (by rw [qdF_n (fun hb => by rcases hx418 with hz | hz; (omega); (exact hz.2 ((qLB_of (t := 4) (i := u384) (qord_l (by omega) (qLs_ag hx398 p7) (((congrFun e408 114).trans (qw_r_eq.trans (congrArg (fun f => qzu f (4 : Int).toNat u384) rfl))))) (fun hm => absurd ((p8 u384 (by omega) (by omega)).mpr hm) (by have hq := qbi_inS (t := x2) (i := u384) (by omega) hev404 hev405 (by omega); omega))).mp hb)))]; rcases hx434 with hz | hz; (omega); (exact hz.2))) (by omega)
              · skip
                refine qr_iconst 74 rfl rfl ?_
                refine qr_retZ rfl rfl (Or.inr rfl) (by decide) (by decide) ?_
                exact ⟨_, _, rfl, hI438, hF440, 1, rfl, (by decide), (by rcases hx434 with hz | hz; (obtain ⟨_, os2, h1, h2, h3⟩ := hz; have hd : qdp (qLB (fun t i o : Int => qClM σ α (x3 + t * (x4 / 100)) (α 110 (i : Int).toNat) (α 110 (o : Int).toNat)) ((x4 % 100) / (x4 / 100))) (σ 86 43 : Int).toNat (σ 86 43 - 4 : Int).toNat os = qdp (qLB (fun t i o : Int => qClM σ α (x3 + t * (x4 / 100)) (α 110 (i : Int).toNat) (α 110 (o : Int).toNat)) ((x4 % 100) / (x4 / 100))) (σ 86 43 : Int).toNat (σ 86 43 - 5 : Int).toNat (os ++ [u384]) := (by rw [(qdp_s (k := (σ 86 43 - 5 : Int).toNat) (by omega))]; exact (qfj_hit (i := u384) (by omega) (by omega) hx399 (qdF_n (fun hb => by rcases hx418 with hz | hz; (omega); (exact hz.2 ((qLB_of (t := 4) (i := u384) (qord_l (by omega) (qLs_ag hx398 p7) (((congrFun e408 114).trans (qw_r_eq.trans (congrArg (fun f => qzu f (4 : Int).toNat u384) rfl))))) (fun hm => absurd ((p8 u384 (by omega) (by omega)).mpr hm) (by have hq := qbi_inS (t := x2) (i := u384) (by omega) hev404 hev405 (by omega); omega))).mp hb)))).symm h3).symm); exact Or.inl ⟨rfl, os2, h1, h2.trans hd.symm, by rw [hd]; exact h3⟩); (omega)), (fun j hj => (hx435 j (by omega)).trans ((congrFun (hG422.2 114 (by decide)) j).trans ((qLs_kp (t := 4) (by omega) (((congrFun e408 114).trans (qw_r_eq.trans (congrArg (fun f => qzu f (4 : Int).toNat u384) rfl)))) j hj).trans (hx398 j hj))))⟩
          · skip
            refine qr_goto 75 rfl rfl ?_
            refine qr_iinc _ 78 rfl g383 (by decide) rfl rfl ?_
            refine qr_goto 13 rfl rfl ?_
            exact ih402 _ (u384 + 1) σ385 α386 (by omega) (qm_gk g378 (by decide) (Or.inl (by decide))) (qm_gk g379 (by decide) (Or.inl (by decide))) (qm_gk g380 (by decide) (Or.inl (by decide))) (qm_gk g381 (by decide) (Or.inl (by decide))) (qm_gk g382 (by decide) (Or.inr rfl)) (qm_ge _ _ _) (by omega) hI387 hF388 ((hk389).trans rfl) ((hk390).trans rfl) ((hk391).trans rfl) ((hk392).trans rfl) ((hk393).trans rfl) ((hk394).trans rfl) ((hk395).trans rfl) hk396 hx398 (qfj_go (by omega) hx399 (qdF_b (Or.inl ((p8 u384 (by omega) (by omega)).mp (by have hq := qbi_inS (t := x2) (i := u384) (by omega) hev404 hev405 (by omega); omega))))) (by omega)
    exact hL401 ((6 - 0 + 1 : Int)).toNat _ 0 σ α (by omega) rfl rfl rfl rfl rfl rfl (by decide) hI hF0 (rfl) (rfl) (rfl) (rfl) (rfl) (rfl) (rfl) rfl (fun _ _ => rfl) rfl (by omega)
  · skip
    refine qr_iconst 9 rfl rfl ?_
    refine qr_retZ rfl rfl (Or.inr rfl) (by decide) (by decide) ?_
    exact ⟨_, _, rfl, hI, hF0, 1, rfl, (by decide), (Or.inl ⟨rfl, os, (by rw [show σ 86 43 = 4 by omega]; exact p7), (show qdp (qLB (fun t i o : Int => qClM σ α (x3 + t * (x4 / 100)) (α 110 (i : Int).toNat) (α 110 (o : Int).toNat)) ((x4 % 100) / (x4 / 100))) (σ 86 43 : Int).toNat (σ 86 43 - 4 : Int).toNat os = qdg os by rw [show (σ 86 43 - 4 : Int).toNat = 0 by omega]; rfl).symm, by rw [(show qdp (qLB (fun t i o : Int => qClM σ α (x3 + t * (x4 / 100)) (α 110 (i : Int).toNat) (α 110 (o : Int).toNat)) ((x4 % 100) / (x4 / 100))) (σ 86 43 : Int).toNat (σ 86 43 - 4 : Int).toNat os = qdg os by rw [show (σ 86 43 - 4 : Int).toNat = 0 by omega]; rfl)]; have hz := qdg_nn _ os rfl (fun o ho => (p9 o ho).1); omega⟩), (fun _ _ => rfl)⟩

set_option maxHeartbeats 4000000 in
set_option maxRecDepth 20000 in
/-- OneRoofModel.orders -/
theorem sf_243_86x3 {L : Nat} {xs : Nat → Int} {vb : Bool} {d : Nat} {σ α : Nat → Nat → Int} {κ : Nat → Option Nat} {ρ : Nat} {x2 : Int} {x3 : Int} {x4 : Int} {os : List Int} (hI : qI σ α κ ρ) (r2 : (-2147483648) ≤ x2 ∧ x2 ≤ 2147483647) (r3 : 0 ≤ x3 ∧ x3 ≤ 2399) (r4 : 100 ≤ x4 ∧ x4 ≤ 2499) (p0 : 1 ≤ σ 86 6) (p1 : σ 86 43 ≤ 6) (p2 : qZf σ α) (p3 : qZk σ α) (p4 : σ 86 29 = 0) (p5 : qSr (α 110) (σ 86 43) (σ 86 6)) (p6 : 3 ≤ σ 86 43) (p7 : qLs (α 114) 3 os) (p8 : qGo x2 os) (p9 : ∀ o ∈ os, 0 ≤ o ∧ o < σ 86 43) : qm_T (qe L xs vb) (d + 9) 243 [.ref 86, .int (qz 3), .int (qz x2), .int (qz x3), .int (qz x4)] (qw σ α κ ρ) (fun r w' => ∃ σ' α', w' = qw σ' α' κ ρ ∧ qI σ' α' κ ρ ∧ qFr [(86, 15), (86, 23), (86, 30)] [96, 114] σ α σ' α' ∧ ∃ v : Int, r = some (.int (qz v)) ∧ (0 ≤ v ∧ v ≤ 1) ∧ ((v = 1 ∧ qHas (α' 114) (σ 86 43) (qdp (qLB (fun t i o : Int => qClM σ α (x3 + t * (x4 / 100)) (α 110 (i : Int).toNat) (α 110 (o : Int).toNat)) ((x4 % 100) / (x4 / 100))) (σ 86 43 : Int).toNat (σ 86 43 - 3 : Int).toNat os)) ∨ (v = 0 ∧ qdp (qLB (fun t i o : Int => qClM σ α (x3 + t * (x4 / 100)) (α 110 (i : Int).toNat) (α 110 (o : Int).toNat)) ((x4 % 100) / (x4 / 100))) (σ 86 43 : Int).toNat (σ 86 43 - 3 : Int).toNat os = -2)) ∧ (∀ j : Nat, (j : Int) < 3 → α' 114 j = α 114 j)) := by
  refine qr_start (d := d + 8) qv_e243 (Nat.le_of_ble_eq_true rfl) ?_
  show qr_W (qe L xs vb) (d + 8) qx_e243 _ (0, [(0, .ref 86), (1, .int (qz 3)), (2, .int (qz x2)), (3, .int (qz x3)), (4, .int (qz x4))], [], _, 0, 0)
  have hF0 := qFr_rf [(86, 15), (86, 23), (86, 30)] [96, 114] σ α
  have hz86_6 : 0 ≤ σ 86 6 ∧ σ 86 6 ≤ 32 := hI.1 86 6
  have hz86_43 : 0 ≤ σ 86 43 ∧ σ 86 43 ≤ 32 := hI.1 86 43
  have hz86_29 : (-9223372036854775808) ≤ σ 86 29 ∧ σ 86 29 ≤ 9223372036854775807 := hI.1 86 29
  have hz86_11 : 0 ≤ σ 86 11 ∧ σ 86 11 ≤ 61 := hI.1 86 11
  have hz86_16 : 0 ≤ σ 86 16 ∧ σ 86 16 ≤ 40 := hI.1 86 16
  have hz86_22 : (-9223372036854775808) ≤ σ 86 22 ∧ σ 86 22 ≤ 9223372036854775807 := hI.1 86 22
  have hz86_24 : 0 ≤ σ 86 24 ∧ σ 86 24 ≤ 60 := hI.1 86 24
  refine qr_iload_n 1 rfl rfl rfl ?_
  refine qr_aload_n 2 rfl rfl rfl ?_
  refine qr_get 5 rfl rfl rfl (by decide) rfl ?_
  refine qr_icmp_ne 10 8 rfl rfl rfl (by decide) (qrg hz86_43 (by decide) (by decide)) (fun h1 => ?_) (fun h1 => ?_)
  · skip
    refine qr_iconst 11 rfl rfl ?_
    refine qr_istore _ 13 rfl (by decide) rfl rfl ?_
    have hL401 : ∀ (n : Nat) (ls : qm_L) (u384 : Int) (σ385 α386 : Nat → Nat → Int), 6 - u384 < (n : Int) → qm_get ls 0 = some (.ref 86) → qm_get ls 1 = some (.int (qz 3)) → qm_get ls 2 = some (.int (qz x2)) → qm_get ls 3 = some (.int (qz x3)) → qm_get ls 4 = some (.int (qz x4)) → qm_get ls 5 = some (.int (qz u384)) → (0 ≤ u384 ∧ u384 ≤ 6) → qI σ385 α386 κ ρ → qFr [(86, 15), (86, 23), (86, 30)] [96, 114] σ α σ385 α386 → σ385 86 6 = (σ 86 6) → σ385 86 11 = (σ 86 11) → σ385 86 16 = (σ 86 16) → σ385 86 22 = (σ 86 22) → σ385 86 24 = (σ 86 24) → σ385 86 29 = (σ 86 29) → σ385 86 43 = (σ 86 43) → α386 110 = (α 110) → (∀ j : Nat, (j : Int) < 3 → α386 114 j = α 114 j) → qfj (qdF (qLB (fun t i o : Int => qClM σ α (x3 + t * (x4 / 100)) (α 110 (i : Int).toNat) (α 110 (o : Int).toNat)) ((x4 % 100) / (x4 / 100))) (σ 86 43 : Int).toNat (σ 86 43 - 4 : Int).toNat os) (u384 : Int).toNat = -2 → u384 ≤ σ 86 43 → qr_W (qe L xs vb) (d + 8) qx_e243 (fun r w' => ∃ σ' α', w' = qw σ' α' κ ρ ∧ qI σ' α' κ ρ ∧ qFr [(86, 15), (86, 23), (86, 30)] [96, 114] σ α σ' α' ∧ ∃ v : Int, r = some (.int (qz v)) ∧ (0 ≤ v ∧ v ≤ 1) ∧ ((v = 1 ∧ qHas (α' 114) (σ 86 43) (qdp (qLB (fun t i o : Int => qClM σ α (x3 + t * (x4 / 100)) (α 110 (i : Int).toNat) (α 110 (o : Int).toNat)) ((x4 % 100) / (x4 / 100))) (σ 86 43 : Int).toNat (σ 86 43 - 3 : Int).toNat os)) ∨ (v = 0 ∧ qdp (qLB (fun t i o : Int => qClM σ α (x3 + t * (x4 / 100)) (α 110 (i : Int).toNat) (α 110 (o : Int).toNat)) ((x4 % 100) / (x4 / 100))) (σ 86 43 : Int).toNat (σ 86 43 - 3 : Int).toNat os = -2)) ∧ (∀ j : Nat, (j : Int) < 3 → α' 114 j = α 114 j)) (13, ls, [], qw σ385 α386 κ ρ, 0, 0) := by
      intro n
      induction n with
      | zero => intro ls u384 σ385 α386 hm g378 g379 g380 g381 g382 g383 hf397 hI387 hF388 hk389 hk390 hk391 hk392 hk393 hk394 hk395 hk396 hx398 hx399 hx400; exact False.elim (by omega)
      | succ n ih402 =>
        intro ls u384 σ385 α386 hm g378 g379 g380 g381 g382 g383 hf397 hI387 hF388 hk389 hk390 hk391 hk392 hk393 hk394 hk395 hk396 hx398 hx399 hx400
        refine qr_iload 15 rfl g383 rfl ?_
        refine qr_aload_n 16 rfl g378 rfl ?_
        refine qr_get 19 rfl rfl rfl (by decide) rfl ?_
        refine qy_v (σ 86 43) ((hk395).trans rfl) ?_
        refine qr_icmp_ge 81 22 rfl rfl rfl (qrg hf397 (by decide) (by decide)) (qrg hz86_43 (by decide) (by decide)) (fun h403 => ?_) (fun h403 => ?_)
        · skip
          refine qr_iconst 82 rfl rfl ?_
          refine qr_retZ rfl rfl (Or.inl rfl) (by decide) (by decide) ?_
          exact ⟨_, _, rfl, hI387, hF388, 0, rfl, (by decide), (Or.inr ⟨rfl, by rw [(qdp_s (k := (σ 86 43 - 4 : Int).toNat) (by omega))]; have hz := hx399; rw [show u384 = σ 86 43 by omega] at hz; exact hz⟩), hx398⟩
        · skip
          refine qr_iload_n 23 rfl g380 rfl ?_
          refine qr_iload 25 rfl g383 rfl ?_
          refine qr_ishr 26 rfl rfl ?_
          refine qy_canE (fun v404 hv404 hev404 => ?_)
          refine qr_iconst 27 rfl rfl ?_
          refine qr_iand 28 rfl rfl ?_
          refine qy_andrE (by omega) (fun v405 hv405 hev405 => ?_)
          refine qr_iconst 29 rfl rfl ?_
          refine qr_icmp_ne 35 32 rfl rfl rfl (by omega) (by decide) (fun h406 => ?_) (fun h406 => ?_)
          · skip
            refine qr_aload_n 36 rfl g378 rfl ?_
            refine qr_get 39 rfl rfl rfl (by decide) rfl ?_
            refine qr_iload_n 40 rfl g379 rfl ?_
            refine qr_iload 42 rfl g383 rfl ?_
            refine qr_iastore 43 rfl (by decide) rfl (by decide) (by decide) rfl ?_
            refine qy_wA (qw_r α386 114 (qzu (α386 114) (3 : Int).toNat u384)) rfl (fun α407 e408 => ?_)
            have hI409 : qI σ385 α407 κ ρ := by rw [e408]; exact qI_r hI387 114 _ rfl (show 0 ≤ u384 ∧ u384 ≤ 5 by omega)
            have hF410 : qFr [(86, 15), (86, 23), (86, 30)] [96, 114] σ α σ385 α407 := by rw [e408]; exact qFr_r hF388 114 _ (by decide)
            refine qr_aload_n 44 rfl g378 rfl ?_
            refine qr_iload_n 45 rfl g379 rfl ?_
            refine qr_iload_n 46 rfl g381 rfl ?_
            refine qr_iload 48 rfl g382 rfl ?_
            have hs411 : (-9223372036854775808) ≤ σ385 86 29 ∧ σ385 86 29 ≤ 9223372036854775807 := hI409.1 86 29
            have hs412 : σ385 86 29 = (σ 86 29) := (hk394).trans rfl
            have hs413 : 0 ≤ σ385 86 43 ∧ σ385 86 43 ≤ 32 := hI409.1 86 43
            have hs414 : σ385 86 43 = (σ 86 43) := (hk395).trans rfl
            have hs415 : 0 ≤ σ385 86 6 ∧ σ385 86 6 ≤ 32 := hI409.1 86 6
            have hs416 : σ385 86 6 = (σ 86 6) := (hk389).trans rfl
            refine qr_callN 51 rfl rfl rfl (sf_244_86x (d := d + 2) hI409 (by decide) r3 r4 (by omega) (by omega) (qZf_fr hF410 (by decide) (by decide) p2) (qZk_fr hF410 (by decide) (by decide) p3) ((hF410.1 86 29 (by decide)).trans p4) (by rw [hF410.2 110 (by decide), hF410.1 86 43 (by decide), hF410.1 86 6 (by decide)]; exact p5) (by omega) (by have hq := qord_r (m := σ 86 43) (by omega) (qLs_ag hx398 p7) (((congrFun e408 114).trans (qw_r_eq.trans (congrArg (fun f => qzu f (3 : Int).toNat u384) rfl)))) p9 (by omega); have hw := hF410.1 86 43 (by decide); rw [hw]; exact hq) (qord_d (by omega) (qLs_ag hx398 p7) (((congrFun e408 114).trans (qw_r_eq.trans (congrArg (fun f => qzu f (3 : Int).toNat u384) rfl)))) (fun hm => absurd ((p8 u384 (by omega) (by omega)).mpr hm) (by have hq := qbi_inS (t := x2) (i := u384) (by omega) hev404 hev405 (by omega); omega)))) ?_
            rintro _ _ ⟨σ419, α420, rfl, hI421, hG422, v417, rfl, hv417, hx418⟩
            have hF423 : qFr [(86, 15), (86, 23), (86, 30)] [96, 114] σ α σ419 α420 := qFr_t hF410 hG422 (by decide) (by decide)
            rw [hF410.2 110 (by decide)] at hx418
            show qr_W (qe L xs vb) (d + 8) qx_e243 _ (51, _, [.int (qz v417)], qw σ419 α420 κ ρ, 0, 0)
            rw [qClM_fr hF410 (by decide) (by decide), show α407 114 (3 : Int).toNat = u384 from qord_a (((congrFun e408 114).trans (qw_r_eq.trans (congrArg (fun f => qzu f (3 : Int).toNat u384) rfl))))] at hx418
            refine qr_if_ne 75 54 rfl rfl rfl (qrg hv417 (by decide) (by decide)) (fun h424 => ?_) (fun h424 => ?_)
            · skip
              refine qr_iinc _ 78 rfl g383 (by decide) rfl rfl ?_
              refine qr_goto 13 rfl rfl ?_
              exact ih402 _ (u384 + 1) σ419 α420 (by omega) (qm_gk g378 (by decide) (Or.inl (by decide))) (qm_gk g379 (by decide) (Or.inl (by decide))) (qm_gk g380 (by decide) (Or.inl (by decide))) (qm_gk g381 (by decide) (Or.inl (by decide))) (qm_gk g382 (by decide) (Or.inr rfl)) (qm_ge _ _ _) (by omega) hI421 hF423 ((hG422.1 86 6 (by decide)).trans ((hk389).trans rfl)) ((hG422.1 86 11 (by decide)).trans ((hk390).trans rfl)) ((hG422.1 86 16 (by decide)).trans ((hk391).trans rfl)) ((hG422.1 86 22 (by decide)).trans ((hk392).trans rfl)) ((hG422.1 86 24 (by decide)).trans ((hk393).trans rfl)) ((hG422.1 86 29 (by decide)).trans ((hk394).trans rfl)) ((hG422.1 86 43 (by decide)).trans ((hk395).trans rfl)) ((hG422.2 110 (by decide)).trans ((congrFun e408 110).trans ((qw_r_ne (by decide)).trans hk396))) (fun j hj => (congrFun (hG422.2 114 (by decide)) j).trans ((qLs_kp (t := 3) (by omega) (((congrFun e408 114).trans (qw_r_eq.trans (congrArg (fun f => qzu f (3 : Int).toNat u384) rfl)))) j hj).trans (hx398 j hj))) (qfj_go (by omega) hx399 (qdF_b (by rcases hx418 with hz | hz; (exact (qLB_of (t := 3) (i := u384) (qord_l (by omega) (qLs_ag hx398 p7) (((congrFun e408 114).trans (qw_r_eq.trans (congrArg (fun f => qzu f (3 : Int).toNat u384) rfl))))) (fun hm => absurd ((p8 u384 (by omega) (by omega)).mpr hm) (by have hq := qbi_inS (t := x2) (i := u384) (by omega) hev404 hev405 (by omega); omega))).mpr hz.2); (omega)))) (by omega)
            · skip
              refine qr_aload_n 55 rfl g378 rfl ?_
              refine qr_iload_n 56 rfl g379 rfl ?_
              refine qr_iconst 57 rfl rfl ?_
              refine qr_iadd 58 rfl rfl ?_
              refine qy_v 4 rfl ?_
              refine qr_iload_n 59 rfl g380 rfl ?_
              refine qr_iconst 60 rfl rfl ?_
              refine qr_iload 62 rfl g383 rfl ?_
              refine qr_ishl 63 rfl rfl ?_
              refine qy_shl1E (N := 5) (by omega) (fun v425 hv425 hev425 => ?_)
              refine qr_ior 64 rfl rfl ?_
              refine qy_canE (fun v426 hv426 hev426 => ?_)
              refine qr_iload_n 65 rfl g381 rfl ?_
              refine qr_iload 67 rfl g382 rfl ?_
              have hs427 : (-9223372036854775808) ≤ σ419 86 29 ∧ σ419 86 29 ≤ 9223372036854775807 := hI421.1 86 29
              have hs428 : σ419 86 29 = (σ 86 29) := (hG422.1 86 29 (by decide)).trans ((hk394).trans rfl)
              have hs429 : 0 ≤ σ419 86 43 ∧ σ419 86 43 ≤ 32 := hI421.1 86 43
              have hs430 : σ419 86 43 = (σ 86 43) := (hG422.1 86 43 (by decide)).trans ((hk395).trans rfl)
              have hs431 : 0 ≤ σ419 86 6 ∧ σ419 86 6 ≤ 32 := hI421.1 86 6
              have hs432 : σ419 86 6 = (σ 86 6) := (hG422.1 86 6 (by decide)).trans ((hk389).trans rfl)
              refine qr_callN 70 rfl rfl rfl (sf_243_86x4 (d := d + 0) hI421 hv426 r3 r4 (by omega) (by omega) (qZf_fr hF423 (by decide) (by decide) p2) (qZk_fr hF423 (by decide) (by decide) p3) ((hF423.1 86 29 (by decide)).trans p4) (by rw [hF423.2 110 (by decide), hF423.1 86 43 (by decide), hF423.1 86 6 (by decide)]; exact p5) (by omega) (by have hq := qLs_nx (qLs_ag hx398 p7) (by omega) (((congrFun e408 114).trans (qw_r_eq.trans (congrArg (fun f => qzu f (3 : Int).toNat u384) rfl)))); rw [← hG422.2 114 (by decide)] at hq; exact hq) (qGo_app p8 (by omega) (by rw [qz_val hev426 (by omega) (qz_or_r _ _), hev425])) (fun o hm => by rw [hF423.1 86 43 (by decide)]; rcases List.mem_append.mp hm with hm | hm; (exact p9 o hm); (rw [List.mem_singleton.mp hm]; omega))) ?_
              rintro _ _ ⟨σ436, α437, rfl, hI438, hG439, v433, rfl, hv433, hx434, hx435⟩
              have hF440 : qFr [(86, 15), (86, 23), (86, 30)] [96, 114] σ α σ436 α437 := qFr_t hF423 hG439 (by decide) (by decide)
              rw [hF423.2 110 (by decide), hF423.1 86 43 (by decide)] at hx434
              show qr_W (qe L xs vb) (d + 8) qx_e243 _ (70, _, [.int (qz v433)], qw σ436 α437 κ ρ, 0, 0)
              rw [qClM_fr hF423 (by decide) (by decide)] at hx434
              refine qr_if_eq 75 73 rfl rfl rfl (qrg hv433 (by decide) (by decide)) (fun h441 => ?_) (fun h441 => ?_)
              · skip
                refine qr_iinc _ 78 rfl g383 (by decide) rfl rfl ?_
                refine qr_goto 13 rfl rfl ?_
                exact ih402 _ (u384 + 1) σ436 α437 (by omega) (qm_gk g378 (by decide) (Or.inl (by decide))) (qm_gk g379 (by decide) (Or.inl (by decide))) (qm_gk g380 (by decide) (Or.inl (by decide))) (qm_gk g381 (by decide) (Or.inl (by decide))) (qm_gk g382 (by decide) (Or.inr rfl)) (qm_ge _ _ _) (by omega) hI438 hF440 ((hG439.1 86 6 (by decide)).trans ((hG422.1 86 6 (by decide)).trans ((hk389).trans rfl))) ((hG439.1 86 11 (by decide)).trans ((hG422.1 86 11 (by decide)).trans ((hk390).trans rfl))) ((hG439.1 86 16 (by decide)).trans ((hG422.1 86 16 (by decide)).trans ((hk391).trans rfl))) ((hG439.1 86 22 (by decide)).trans ((hG422.1 86 22 (by decide)).trans ((hk392).trans rfl))) ((hG439.1 86 24 (by decide)).trans ((hG422.1 86 24 (by decide)).trans ((hk393).trans rfl))) ((hG439.1 86 29 (by decide)).trans ((hG422.1 86 29 (by decide)).trans ((hk394).trans rfl))) ((hG439.1 86 43 (by decide)).trans ((hG422.1 86 43 (by decide)).trans ((hk395).trans rfl))) ((hG439.2 110 (by decide)).trans ((hG422.2 110 (by decide)).trans ((congrFun e408 110).trans ((qw_r_ne (by decide)).trans hk396)))) (fun j hj => (hx435 j (by omega)).trans ((congrFun (hG422.2 114 (by decide)) j).trans ((qLs_kp (t := 3) (by omega) (((congrFun e408 114).trans (qw_r_eq.trans (congrArg (fun f => qzu f (3 : Int).toNat u384) rfl)))) j hj).trans (hx398 j hj)))) (qfj_go (by omega) hx399 (by rw [qdF_n (fun hb => by rcases hx418 with hz | hz; (omega); (exact hz.2 ((qLB_of (t := 3) (i := u384) (qord_l (by omega) (qLs_ag hx398 p7) (((congrFun e408 114).trans (qw_r_eq.trans (congrArg (fun f => qzu f (3 : Int).toNat u384) rfl))))) (fun hm => absurd ((p8 u384 (by omega) (by omega)).mpr hm) (by have hq := qbi_inS (t := x2) (i := u384) (by omega) hev404 hev405 (by omega); omega))).mp hb)))]; rcases hx434 with hz | hz; (omega); (exact hz.2))) (by omega)
              · skip
                refine qr_iconst 74 rfl rfl ?_
                refine qr_retZ rfl rfl (Or.inr rfl) (by decide) (by decide) ?_
                exact ⟨_, _, rfl, hI438, hF440, 1, rfl, (by decide), (by rcases hx434 with hz | hz; (obtain ⟨_, os2, h1, h2, h3⟩ := hz; have hd : qdp (qLB (fun t i o : Int => qClM σ α (x3 + t * (x4 / 100)) (α 110 (i : Int).toNat) (α 110 (o : Int).toNat)) ((x4 % 100) / (x4 / 100))) (σ 86 43 : Int).toNat (σ 86 43 - 3 : Int).toNat os = qdp (qLB (fun t i o : Int => qClM σ α (x3 + t * (x4 / 100)) (α 110 (i : Int).toNat) (α 110 (o : Int).toNat)) ((x4 % 100) / (x4 / 100))) (σ 86 43 : Int).toNat (σ 86 43 - 4 : Int).toNat (os ++ [u384]) := (by rw [(qdp_s (k := (σ 86 43 - 4 : Int).toNat) (by omega))]; exact (qfj_hit (i := u384) (by omega) (by omega) hx399 (qdF_n (fun hb => by rcases hx418 with hz | hz; (omega); (exact hz.2 ((qLB_of (t := 3) (i := u384) (qord_l (by omega) (qLs_ag hx398 p7) (((congrFun e408 114).trans (qw_r_eq.trans (congrArg (fun f => qzu f (3 : Int).toNat u384) rfl))))) (fun hm => absurd ((p8 u384 (by omega) (by omega)).mpr hm) (by have hq := qbi_inS (t := x2) (i := u384) (by omega) hev404 hev405 (by omega); omega))).mp hb)))).symm h3).symm); exact Or.inl ⟨rfl, os2, h1, h2.trans hd.symm, by rw [hd]; exact h3⟩); (omega)), (fun j hj => (hx435 j (by omega)).trans ((congrFun (hG422.2 114 (by decide)) j).trans ((qLs_kp (t := 3) (by omega) (((congrFun e408 114).trans (qw_r_eq.trans (congrArg (fun f => qzu f (3 : Int).toNat u384) rfl)))) j hj).trans (hx398 j hj))))⟩
          · skip
            refine qr_goto 75 rfl rfl ?_
            refine qr_iinc _ 78 rfl g383 (by decide) rfl rfl ?_
            refine qr_goto 13 rfl rfl ?_
            exact ih402 _ (u384 + 1) σ385 α386 (by omega) (qm_gk g378 (by decide) (Or.inl (by decide))) (qm_gk g379 (by decide) (Or.inl (by decide))) (qm_gk g380 (by decide) (Or.inl (by decide))) (qm_gk g381 (by decide) (Or.inl (by decide))) (qm_gk g382 (by decide) (Or.inr rfl)) (qm_ge _ _ _) (by omega) hI387 hF388 ((hk389).trans rfl) ((hk390).trans rfl) ((hk391).trans rfl) ((hk392).trans rfl) ((hk393).trans rfl) ((hk394).trans rfl) ((hk395).trans rfl) hk396 hx398 (qfj_go (by omega) hx399 (qdF_b (Or.inl ((p8 u384 (by omega) (by omega)).mp (by have hq := qbi_inS (t := x2) (i := u384) (by omega) hev404 hev405 (by omega); omega))))) (by omega)
    exact hL401 ((6 - 0 + 1 : Int)).toNat _ 0 σ α (by omega) rfl rfl rfl rfl rfl rfl (by decide) hI hF0 (rfl) (rfl) (rfl) (rfl) (rfl) (rfl) (rfl) rfl (fun _ _ => rfl) rfl (by omega)
  · skip
    refine qr_iconst 9 rfl rfl ?_
    refine qr_retZ rfl rfl (Or.inr rfl) (by decide) (by decide) ?_
    exact ⟨_, _, rfl, hI, hF0, 1, rfl, (by decide), (Or.inl ⟨rfl, os, (by rw [show σ 86 43 = 3 by omega]; exact p7), (show qdp (qLB (fun t i o : Int => qClM σ α (x3 + t * (x4 / 100)) (α 110 (i : Int).toNat) (α 110 (o : Int).toNat)) ((x4 % 100) / (x4 / 100))) (σ 86 43 : Int).toNat (σ 86 43 - 3 : Int).toNat os = qdg os by rw [show (σ 86 43 - 3 : Int).toNat = 0 by omega]; rfl).symm, by rw [(show qdp (qLB (fun t i o : Int => qClM σ α (x3 + t * (x4 / 100)) (α 110 (i : Int).toNat) (α 110 (o : Int).toNat)) ((x4 % 100) / (x4 / 100))) (σ 86 43 : Int).toNat (σ 86 43 - 3 : Int).toNat os = qdg os by rw [show (σ 86 43 - 3 : Int).toNat = 0 by omega]; rfl)]; have hz := qdg_nn _ os rfl (fun o ho => (p9 o ho).1); omega⟩), (fun _ _ => rfl)⟩

set_option maxHeartbeats 4000000 in
set_option maxRecDepth 20000 in
/-- OneRoofModel.orders -/
theorem sf_243_86x2 {L : Nat} {xs : Nat → Int} {vb : Bool} {d : Nat} {σ α : Nat → Nat → Int} {κ : Nat → Option Nat} {ρ : Nat} {x2 : Int} {x3 : Int} {x4 : Int} {os : List Int} (hI : qI σ α κ ρ) (r2 : (-2147483648) ≤ x2 ∧ x2 ≤ 2147483647) (r3 : 0 ≤ x3 ∧ x3 ≤ 2399) (r4 : 100 ≤ x4 ∧ x4 ≤ 2499) (p0 : 1 ≤ σ 86 6) (p1 : σ 86 43 ≤ 6) (p2 : qZf σ α) (p3 : qZk σ α) (p4 : σ 86 29 = 0) (p5 : qSr (α 110) (σ 86 43) (σ 86 6)) (p6 : 2 ≤ σ 86 43) (p7 : qLs (α 114) 2 os) (p8 : qGo x2 os) (p9 : ∀ o ∈ os, 0 ≤ o ∧ o < σ 86 43) : qm_T (qe L xs vb) (d + 10) 243 [.ref 86, .int (qz 2), .int (qz x2), .int (qz x3), .int (qz x4)] (qw σ α κ ρ) (fun r w' => ∃ σ' α', w' = qw σ' α' κ ρ ∧ qI σ' α' κ ρ ∧ qFr [(86, 15), (86, 23), (86, 30)] [96, 114] σ α σ' α' ∧ ∃ v : Int, r = some (.int (qz v)) ∧ (0 ≤ v ∧ v ≤ 1) ∧ ((v = 1 ∧ qHas (α' 114) (σ 86 43) (qdp (qLB (fun t i o : Int => qClM σ α (x3 + t * (x4 / 100)) (α 110 (i : Int).toNat) (α 110 (o : Int).toNat)) ((x4 % 100) / (x4 / 100))) (σ 86 43 : Int).toNat (σ 86 43 - 2 : Int).toNat os)) ∨ (v = 0 ∧ qdp (qLB (fun t i o : Int => qClM σ α (x3 + t * (x4 / 100)) (α 110 (i : Int).toNat) (α 110 (o : Int).toNat)) ((x4 % 100) / (x4 / 100))) (σ 86 43 : Int).toNat (σ 86 43 - 2 : Int).toNat os = -2)) ∧ (∀ j : Nat, (j : Int) < 2 → α' 114 j = α 114 j)) := by
  refine qr_start (d := d + 9) qv_e243 (Nat.le_of_ble_eq_true rfl) ?_
  show qr_W (qe L xs vb) (d + 9) qx_e243 _ (0, [(0, .ref 86), (1, .int (qz 2)), (2, .int (qz x2)), (3, .int (qz x3)), (4, .int (qz x4))], [], _, 0, 0)
  have hF0 := qFr_rf [(86, 15), (86, 23), (86, 30)] [96, 114] σ α
  have hz86_6 : 0 ≤ σ 86 6 ∧ σ 86 6 ≤ 32 := hI.1 86 6
  have hz86_43 : 0 ≤ σ 86 43 ∧ σ 86 43 ≤ 32 := hI.1 86 43
  have hz86_29 : (-9223372036854775808) ≤ σ 86 29 ∧ σ 86 29 ≤ 9223372036854775807 := hI.1 86 29
  have hz86_11 : 0 ≤ σ 86 11 ∧ σ 86 11 ≤ 61 := hI.1 86 11
  have hz86_16 : 0 ≤ σ 86 16 ∧ σ 86 16 ≤ 40 := hI.1 86 16
  have hz86_22 : (-9223372036854775808) ≤ σ 86 22 ∧ σ 86 22 ≤ 9223372036854775807 := hI.1 86 22
  have hz86_24 : 0 ≤ σ 86 24 ∧ σ 86 24 ≤ 60 := hI.1 86 24
  refine qr_iload_n 1 rfl rfl rfl ?_
  refine qr_aload_n 2 rfl rfl rfl ?_
  refine qr_get 5 rfl rfl rfl (by decide) rfl ?_
  refine qr_icmp_ne 10 8 rfl rfl rfl (by decide) (qrg hz86_43 (by decide) (by decide)) (fun h1 => ?_) (fun h1 => ?_)
  · skip
    refine qr_iconst 11 rfl rfl ?_
    refine qr_istore _ 13 rfl (by decide) rfl rfl ?_
    have hL401 : ∀ (n : Nat) (ls : qm_L) (u384 : Int) (σ385 α386 : Nat → Nat → Int), 6 - u384 < (n : Int) → qm_get ls 0 = some (.ref 86) → qm_get ls 1 = some (.int (qz 2)) → qm_get ls 2 = some (.int (qz x2)) → qm_get ls 3 = some (.int (qz x3)) → qm_get ls 4 = some (.int (qz x4)) → qm_get ls 5 = some (.int (qz u384)) → (0 ≤ u384 ∧ u384 ≤ 6) → qI σ385 α386 κ ρ → qFr [(86, 15), (86, 23), (86, 30)] [96, 114] σ α σ385 α386 → σ385 86 6 = (σ 86 6) → σ385 86 11 = (σ 86 11) → σ385 86 16 = (σ 86 16) → σ385 86 22 = (σ 86 22) → σ385 86 24 = (σ 86 24) → σ385 86 29 = (σ 86 29) → σ385 86 43 = (σ 86 43) → α386 110 = (α 110) → (∀ j : Nat, (j : Int) < 2 → α386 114 j = α 114 j) → qfj (qdF (qLB (fun t i o : Int => qClM σ α (x3 + t * (x4 / 100)) (α 110 (i : Int).toNat) (α 110 (o : Int).toNat)) ((x4 % 100) / (x4 / 100))) (σ 86 43 : Int).toNat (σ 86 43 - 3 : Int).toNat os) (u384 : Int).toNat = -2 → u384 ≤ σ 86 43 → qr_W (qe L xs vb) (d + 9) qx_e243 (fun r w' => ∃ σ' α', w' = qw σ' α' κ ρ ∧ qI σ' α' κ ρ ∧ qFr [(86, 15), (86, 23), (86, 30)] [96, 114] σ α σ' α' ∧ ∃ v : Int, r = some (.int (qz v)) ∧ (0 ≤ v ∧ v ≤ 1) ∧ ((v = 1 ∧ qHas (α' 114) (σ 86 43) (qdp (qLB (fun t i o : Int => qClM σ α (x3 + t * (x4 / 100)) (α 110 (i : Int).toNat) (α 110 (o : Int).toNat)) ((x4 % 100) / (x4 / 100))) (σ 86 43 : Int).toNat (σ 86 43 - 2 : Int).toNat os)) ∨ (v = 0 ∧ qdp (qLB (fun t i o : Int => qClM σ α (x3 + t * (x4 / 100)) (α 110 (i : Int).toNat) (α 110 (o : Int).toNat)) ((x4 % 100) / (x4 / 100))) (σ 86 43 : Int).toNat (σ 86 43 - 2 : Int).toNat os = -2)) ∧ (∀ j : Nat, (j : Int) < 2 → α' 114 j = α 114 j)) (13, ls, [], qw σ385 α386 κ ρ, 0, 0) := by
      intro n
      induction n with
      | zero => intro ls u384 σ385 α386 hm g378 g379 g380 g381 g382 g383 hf397 hI387 hF388 hk389 hk390 hk391 hk392 hk393 hk394 hk395 hk396 hx398 hx399 hx400; exact False.elim (by omega)
      | succ n ih402 =>
        intro ls u384 σ385 α386 hm g378 g379 g380 g381 g382 g383 hf397 hI387 hF388 hk389 hk390 hk391 hk392 hk393 hk394 hk395 hk396 hx398 hx399 hx400
        refine qr_iload 15 rfl g383 rfl ?_
        refine qr_aload_n 16 rfl g378 rfl ?_
        refine qr_get 19 rfl rfl rfl (by decide) rfl ?_
        refine qy_v (σ 86 43) ((hk395).trans rfl) ?_
        refine qr_icmp_ge 81 22 rfl rfl rfl (qrg hf397 (by decide) (by decide)) (qrg hz86_43 (by decide) (by decide)) (fun h403 => ?_) (fun h403 => ?_)
        · skip
          refine qr_iconst 82 rfl rfl ?_
          refine qr_retZ rfl rfl (Or.inl rfl) (by decide) (by decide) ?_
          exact ⟨_, _, rfl, hI387, hF388, 0, rfl, (by decide), (Or.inr ⟨rfl, by rw [(qdp_s (k := (σ 86 43 - 3 : Int).toNat) (by omega))]; have hz := hx399; rw [show u384 = σ 86 43 by omega] at hz; exact hz⟩), hx398⟩
        · skip
          refine qr_iload_n 23 rfl g380 rfl ?_
          refine qr_iload 25 rfl g383 rfl ?_
          refine qr_ishr 26 rfl rfl ?_
          refine qy_canE (fun v404 hv404 hev404 => ?_)
          refine qr_iconst 27 rfl rfl ?_
          refine qr_iand 28 rfl rfl ?_
          refine qy_andrE (by omega) (fun v405 hv405 hev405 => ?_)
          refine qr_iconst 29 rfl rfl ?_
          refine qr_icmp_ne 35 32 rfl rfl rfl (by omega) (by decide) (fun h406 => ?_) (fun h406 => ?_)
          · skip
            refine qr_aload_n 36 rfl g378 rfl ?_
            refine qr_get 39 rfl rfl rfl (by decide) rfl ?_
            refine qr_iload_n 40 rfl g379 rfl ?_
            refine qr_iload 42 rfl g383 rfl ?_
            refine qr_iastore 43 rfl (by decide) rfl (by decide) (by decide) rfl ?_
            refine qy_wA (qw_r α386 114 (qzu (α386 114) (2 : Int).toNat u384)) rfl (fun α407 e408 => ?_)
            have hI409 : qI σ385 α407 κ ρ := by rw [e408]; exact qI_r hI387 114 _ rfl (show 0 ≤ u384 ∧ u384 ≤ 5 by omega)
            have hF410 : qFr [(86, 15), (86, 23), (86, 30)] [96, 114] σ α σ385 α407 := by rw [e408]; exact qFr_r hF388 114 _ (by decide)
            refine qr_aload_n 44 rfl g378 rfl ?_
            refine qr_iload_n 45 rfl g379 rfl ?_
            refine qr_iload_n 46 rfl g381 rfl ?_
            refine qr_iload 48 rfl g382 rfl ?_
            have hs411 : (-9223372036854775808) ≤ σ385 86 29 ∧ σ385 86 29 ≤ 9223372036854775807 := hI409.1 86 29
            have hs412 : σ385 86 29 = (σ 86 29) := (hk394).trans rfl
            have hs413 : 0 ≤ σ385 86 43 ∧ σ385 86 43 ≤ 32 := hI409.1 86 43
            have hs414 : σ385 86 43 = (σ 86 43) := (hk395).trans rfl
            have hs415 : 0 ≤ σ385 86 6 ∧ σ385 86 6 ≤ 32 := hI409.1 86 6
            have hs416 : σ385 86 6 = (σ 86 6) := (hk389).trans rfl
            refine qr_callN 51 rfl rfl rfl (sf_244_86x (d := d + 3) hI409 (by decide) r3 r4 (by omega) (by omega) (qZf_fr hF410 (by decide) (by decide) p2) (qZk_fr hF410 (by decide) (by decide) p3) ((hF410.1 86 29 (by decide)).trans p4) (by rw [hF410.2 110 (by decide), hF410.1 86 43 (by decide), hF410.1 86 6 (by decide)]; exact p5) (by omega) (by have hq := qord_r (m := σ 86 43) (by omega) (qLs_ag hx398 p7) (((congrFun e408 114).trans (qw_r_eq.trans (congrArg (fun f => qzu f (2 : Int).toNat u384) rfl)))) p9 (by omega); have hw := hF410.1 86 43 (by decide); rw [hw]; exact hq) (qord_d (by omega) (qLs_ag hx398 p7) (((congrFun e408 114).trans (qw_r_eq.trans (congrArg (fun f => qzu f (2 : Int).toNat u384) rfl)))) (fun hm => absurd ((p8 u384 (by omega) (by omega)).mpr hm) (by have hq := qbi_inS (t := x2) (i := u384) (by omega) hev404 hev405 (by omega); omega)))) ?_
            rintro _ _ ⟨σ419, α420, rfl, hI421, hG422, v417, rfl, hv417, hx418⟩
            have hF423 : qFr [(86, 15), (86, 23), (86, 30)] [96, 114] σ α σ419 α420 := qFr_t hF410 hG422 (by decide) (by decide)
            rw [hF410.2 110 (by decide)] at hx418
            show qr_W (qe L xs vb) (d + 9) qx_e243 _ (51, _, [.int (qz v417)], qw σ419 α420 κ ρ, 0, 0)
            rw [qClM_fr hF410 (by decide) (by decide), show α407 114 (2 : Int).toNat = u384 from qord_a (((congrFun e408 114).trans (qw_r_eq.trans (congrArg (fun f => qzu f (2 : Int).toNat u384) rfl))))] at hx418
            refine qr_if_ne 75 54 rfl rfl rfl (qrg hv417 (by decide) (by decide)) (fun h424 => ?_) (fun h424 => ?_)
            · skip
              refine qr_iinc _ 78 rfl g383 (by decide) rfl rfl ?_
              refine qr_goto 13 rfl rfl ?_
              exact ih402 _ (u384 + 1) σ419 α420 (by omega) (qm_gk g378 (by decide) (Or.inl (by decide))) (qm_gk g379 (by decide) (Or.inl (by decide))) (qm_gk g380 (by decide) (Or.inl (by decide))) (qm_gk g381 (by decide) (Or.inl (by decide))) (qm_gk g382 (by decide) (Or.inr rfl)) (qm_ge _ _ _) (by omega) hI421 hF423 ((hG422.1 86 6 (by decide)).trans ((hk389).trans rfl)) ((hG422.1 86 11 (by decide)).trans ((hk390).trans rfl)) ((hG422.1 86 16 (by decide)).trans ((hk391).trans rfl)) ((hG422.1 86 22 (by decide)).trans ((hk392).trans rfl)) ((hG422.1 86 24 (by decide)).trans ((hk393).trans rfl)) ((hG422.1 86 29 (by decide)).trans ((hk394).trans rfl)) ((hG422.1 86 43 (by decide)).trans ((hk395).trans rfl)) ((hG422.2 110 (by decide)).trans ((congrFun e408 110).trans ((qw_r_ne (by decide)).trans hk396))) (fun j hj => (congrFun (hG422.2 114 (by decide)) j).trans ((qLs_kp (t := 2) (by omega) (((congrFun e408 114).trans (qw_r_eq.trans (congrArg (fun f => qzu f (2 : Int).toNat u384) rfl)))) j hj).trans (hx398 j hj))) (qfj_go (by omega) hx399 (qdF_b (by rcases hx418 with hz | hz; (exact (qLB_of (t := 2) (i := u384) (qord_l (by omega) (qLs_ag hx398 p7) (((congrFun e408 114).trans (qw_r_eq.trans (congrArg (fun f => qzu f (2 : Int).toNat u384) rfl))))) (fun hm => absurd ((p8 u384 (by omega) (by omega)).mpr hm) (by have hq := qbi_inS (t := x2) (i := u384) (by omega) hev404 hev405 (by omega); omega))).mpr hz.2); (omega)))) (by omega)
            · skip
              refine qr_aload_n 55 rfl g378 rfl ?_
              refine qr_iload_n 56 rfl g379 rfl ?_
              refine qr_iconst 57 rfl rfl ?_
              refine qr_iadd 58 rfl rfl ?_
              refine qy_v 3 rfl ?_
              refine qr_iload_n 59 rfl g380 rfl ?_
              refine qr_iconst 60 rfl rfl ?_
              refine qr_iload 62 rfl g383 rfl ?_
              refine qr_ishl 63 rfl rfl ?_
              refine qy_shl1E (N := 5) (by omega) (fun v425 hv425 hev425 => ?_)
              refine qr_ior 64 rfl rfl ?_
              refine qy_canE (fun v426 hv426 hev426 => ?_)
              refine qr_iload_n 65 rfl g381 rfl ?_
              refine qr_iload 67 rfl g382 rfl ?_
              have hs427 : (-9223372036854775808) ≤ σ419 86 29 ∧ σ419 86 29 ≤ 9223372036854775807 := hI421.1 86 29
              have hs428 : σ419 86 29 = (σ 86 29) := (hG422.1 86 29 (by decide)).trans ((hk394).trans rfl)
              have hs429 : 0 ≤ σ419 86 43 ∧ σ419 86 43 ≤ 32 := hI421.1 86 43
              have hs430 : σ419 86 43 = (σ 86 43) := (hG422.1 86 43 (by decide)).trans ((hk395).trans rfl)
              have hs431 : 0 ≤ σ419 86 6 ∧ σ419 86 6 ≤ 32 := hI421.1 86 6
              have hs432 : σ419 86 6 = (σ 86 6) := (hG422.1 86 6 (by decide)).trans ((hk389).trans rfl)
              refine qr_callN 70 rfl rfl rfl (sf_243_86x3 (d := d + 0) hI421 hv426 r3 r4 (by omega) (by omega) (qZf_fr hF423 (by decide) (by decide) p2) (qZk_fr hF423 (by decide) (by decide) p3) ((hF423.1 86 29 (by decide)).trans p4) (by rw [hF423.2 110 (by decide), hF423.1 86 43 (by decide), hF423.1 86 6 (by decide)]; exact p5) (by omega) (by have hq := qLs_nx (qLs_ag hx398 p7) (by omega) (((congrFun e408 114).trans (qw_r_eq.trans (congrArg (fun f => qzu f (2 : Int).toNat u384) rfl)))); rw [← hG422.2 114 (by decide)] at hq; exact hq) (qGo_app p8 (by omega) (by rw [qz_val hev426 (by omega) (qz_or_r _ _), hev425])) (fun o hm => by rw [hF423.1 86 43 (by decide)]; rcases List.mem_append.mp hm with hm | hm; (exact p9 o hm); (rw [List.mem_singleton.mp hm]; omega))) ?_
              rintro _ _ ⟨σ436, α437, rfl, hI438, hG439, v433, rfl, hv433, hx434, hx435⟩
              have hF440 : qFr [(86, 15), (86, 23), (86, 30)] [96, 114] σ α σ436 α437 := qFr_t hF423 hG439 (by decide) (by decide)
              rw [hF423.2 110 (by decide), hF423.1 86 43 (by decide)] at hx434
              show qr_W (qe L xs vb) (d + 9) qx_e243 _ (70, _, [.int (qz v433)], qw σ436 α437 κ ρ, 0, 0)
              rw [qClM_fr hF423 (by decide) (by decide)] at hx434
              refine qr_if_eq 75 73 rfl rfl rfl (qrg hv433 (by decide) (by decide)) (fun h441 => ?_) (fun h441 => ?_)
              · skip
                refine qr_iinc _ 78 rfl g383 (by decide) rfl rfl ?_
                refine qr_goto 13 rfl rfl ?_
                exact ih402 _ (u384 + 1) σ436 α437 (by omega) (qm_gk g378 (by decide) (Or.inl (by decide))) (qm_gk g379 (by decide) (Or.inl (by decide))) (qm_gk g380 (by decide) (Or.inl (by decide))) (qm_gk g381 (by decide) (Or.inl (by decide))) (qm_gk g382 (by decide) (Or.inr rfl)) (qm_ge _ _ _) (by omega) hI438 hF440 ((hG439.1 86 6 (by decide)).trans ((hG422.1 86 6 (by decide)).trans ((hk389).trans rfl))) ((hG439.1 86 11 (by decide)).trans ((hG422.1 86 11 (by decide)).trans ((hk390).trans rfl))) ((hG439.1 86 16 (by decide)).trans ((hG422.1 86 16 (by decide)).trans ((hk391).trans rfl))) ((hG439.1 86 22 (by decide)).trans ((hG422.1 86 22 (by decide)).trans ((hk392).trans rfl))) ((hG439.1 86 24 (by decide)).trans ((hG422.1 86 24 (by decide)).trans ((hk393).trans rfl))) ((hG439.1 86 29 (by decide)).trans ((hG422.1 86 29 (by decide)).trans ((hk394).trans rfl))) ((hG439.1 86 43 (by decide)).trans ((hG422.1 86 43 (by decide)).trans ((hk395).trans rfl))) ((hG439.2 110 (by decide)).trans ((hG422.2 110 (by decide)).trans ((congrFun e408 110).trans ((qw_r_ne (by decide)).trans hk396)))) (fun j hj => (hx435 j (by omega)).trans ((congrFun (hG422.2 114 (by decide)) j).trans ((qLs_kp (t := 2) (by omega) (((congrFun e408 114).trans (qw_r_eq.trans (congrArg (fun f => qzu f (2 : Int).toNat u384) rfl)))) j hj).trans (hx398 j hj)))) (qfj_go (by omega) hx399 (by rw [qdF_n (fun hb => by rcases hx418 with hz | hz; (omega); (exact hz.2 ((qLB_of (t := 2) (i := u384) (qord_l (by omega) (qLs_ag hx398 p7) (((congrFun e408 114).trans (qw_r_eq.trans (congrArg (fun f => qzu f (2 : Int).toNat u384) rfl))))) (fun hm => absurd ((p8 u384 (by omega) (by omega)).mpr hm) (by have hq := qbi_inS (t := x2) (i := u384) (by omega) hev404 hev405 (by omega); omega))).mp hb)))]; rcases hx434 with hz | hz; (omega); (exact hz.2))) (by omega)
              · skip
                refine qr_iconst 74 rfl rfl ?_
                refine qr_retZ rfl rfl (Or.inr rfl) (by decide) (by decide) ?_
                exact ⟨_, _, rfl, hI438, hF440, 1, rfl, (by decide), (by rcases hx434 with hz | hz; (obtain ⟨_, os2, h1, h2, h3⟩ := hz; have hd : qdp (qLB (fun t i o : Int => qClM σ α (x3 + t * (x4 / 100)) (α 110 (i : Int).toNat) (α 110 (o : Int).toNat)) ((x4 % 100) / (x4 / 100))) (σ 86 43 : Int).toNat (σ 86 43 - 2 : Int).toNat os = qdp (qLB (fun t i o : Int => qClM σ α (x3 + t * (x4 / 100)) (α 110 (i : Int).toNat) (α 110 (o : Int).toNat)) ((x4 % 100) / (x4 / 100))) (σ 86 43 : Int).toNat (σ 86 43 - 3 : Int).toNat (os ++ [u384]) := (by rw [(qdp_s (k := (σ 86 43 - 3 : Int).toNat) (by omega))]; exact (qfj_hit (i := u384) (by omega) (by omega) hx399 (qdF_n (fun hb => by rcases hx418 with hz | hz; (omega); (exact hz.2 ((qLB_of (t := 2) (i := u384) (qord_l (by omega) (qLs_ag hx398 p7) (((congrFun e408 114).trans (qw_r_eq.trans (congrArg (fun f => qzu f (2 : Int).toNat u384) rfl))))) (fun hm => absurd ((p8 u384 (by omega) (by omega)).mpr hm) (by have hq := qbi_inS (t := x2) (i := u384) (by omega) hev404 hev405 (by omega); omega))).mp hb)))).symm h3).symm); exact Or.inl ⟨rfl, os2, h1, h2.trans hd.symm, by rw [hd]; exact h3⟩); (omega)), (fun j hj => (hx435 j (by omega)).trans ((congrFun (hG422.2 114 (by decide)) j).trans ((qLs_kp (t := 2) (by omega) (((congrFun e408 114).trans (qw_r_eq.trans (congrArg (fun f => qzu f (2 : Int).toNat u384) rfl)))) j hj).trans (hx398 j hj))))⟩
          · skip
            refine qr_goto 75 rfl rfl ?_
            refine qr_iinc _ 78 rfl g383 (by decide) rfl rfl ?_
            refine qr_goto 13 rfl rfl ?_
            exact ih402 _ (u384 + 1) σ385 α386 (by omega) (qm_gk g378 (by decide) (Or.inl (by decide))) (qm_gk g379 (by decide) (Or.inl (by decide))) (qm_gk g380 (by decide) (Or.inl (by decide))) (qm_gk g381 (by decide) (Or.inl (by decide))) (qm_gk g382 (by decide) (Or.inr rfl)) (qm_ge _ _ _) (by omega) hI387 hF388 ((hk389).trans rfl) ((hk390).trans rfl) ((hk391).trans rfl) ((hk392).trans rfl) ((hk393).trans rfl) ((hk394).trans rfl) ((hk395).trans rfl) hk396 hx398 (qfj_go (by omega) hx399 (qdF_b (Or.inl ((p8 u384 (by omega) (by omega)).mp (by have hq := qbi_inS (t := x2) (i := u384) (by omega) hev404 hev405 (by omega); omega))))) (by omega)
    exact hL401 ((6 - 0 + 1 : Int)).toNat _ 0 σ α (by omega) rfl rfl rfl rfl rfl rfl (by decide) hI hF0 (rfl) (rfl) (rfl) (rfl) (rfl) (rfl) (rfl) rfl (fun _ _ => rfl) rfl (by omega)
  · skip
    refine qr_iconst 9 rfl rfl ?_
    refine qr_retZ rfl rfl (Or.inr rfl) (by decide) (by decide) ?_
    exact ⟨_, _, rfl, hI, hF0, 1, rfl, (by decide), (Or.inl ⟨rfl, os, (by rw [show σ 86 43 = 2 by omega]; exact p7), (show qdp (qLB (fun t i o : Int => qClM σ α (x3 + t * (x4 / 100)) (α 110 (i : Int).toNat) (α 110 (o : Int).toNat)) ((x4 % 100) / (x4 / 100))) (σ 86 43 : Int).toNat (σ 86 43 - 2 : Int).toNat os = qdg os by rw [show (σ 86 43 - 2 : Int).toNat = 0 by omega]; rfl).symm, by rw [(show qdp (qLB (fun t i o : Int => qClM σ α (x3 + t * (x4 / 100)) (α 110 (i : Int).toNat) (α 110 (o : Int).toNat)) ((x4 % 100) / (x4 / 100))) (σ 86 43 : Int).toNat (σ 86 43 - 2 : Int).toNat os = qdg os by rw [show (σ 86 43 - 2 : Int).toNat = 0 by omega]; rfl)]; have hz := qdg_nn _ os rfl (fun o ho => (p9 o ho).1); omega⟩), (fun _ _ => rfl)⟩

set_option maxHeartbeats 4000000 in
set_option maxRecDepth 20000 in
/-- OneRoofModel.orders -/
theorem sf_243_86x1 {L : Nat} {xs : Nat → Int} {vb : Bool} {d : Nat} {σ α : Nat → Nat → Int} {κ : Nat → Option Nat} {ρ : Nat} {x2 : Int} {x3 : Int} {x4 : Int} {os : List Int} (hI : qI σ α κ ρ) (r2 : (-2147483648) ≤ x2 ∧ x2 ≤ 2147483647) (r3 : 0 ≤ x3 ∧ x3 ≤ 2399) (r4 : 100 ≤ x4 ∧ x4 ≤ 2499) (p0 : 1 ≤ σ 86 6) (p1 : σ 86 43 ≤ 6) (p2 : qZf σ α) (p3 : qZk σ α) (p4 : σ 86 29 = 0) (p5 : qSr (α 110) (σ 86 43) (σ 86 6)) (p6 : 1 ≤ σ 86 43) (p7 : qLs (α 114) 1 os) (p8 : qGo x2 os) (p9 : ∀ o ∈ os, 0 ≤ o ∧ o < σ 86 43) : qm_T (qe L xs vb) (d + 11) 243 [.ref 86, .int (qz 1), .int (qz x2), .int (qz x3), .int (qz x4)] (qw σ α κ ρ) (fun r w' => ∃ σ' α', w' = qw σ' α' κ ρ ∧ qI σ' α' κ ρ ∧ qFr [(86, 15), (86, 23), (86, 30)] [96, 114] σ α σ' α' ∧ ∃ v : Int, r = some (.int (qz v)) ∧ (0 ≤ v ∧ v ≤ 1) ∧ ((v = 1 ∧ qHas (α' 114) (σ 86 43) (qdp (qLB (fun t i o : Int => qClM σ α (x3 + t * (x4 / 100)) (α 110 (i : Int).toNat) (α 110 (o : Int).toNat)) ((x4 % 100) / (x4 / 100))) (σ 86 43 : Int).toNat (σ 86 43 - 1 : Int).toNat os)) ∨ (v = 0 ∧ qdp (qLB (fun t i o : Int => qClM σ α (x3 + t * (x4 / 100)) (α 110 (i : Int).toNat) (α 110 (o : Int).toNat)) ((x4 % 100) / (x4 / 100))) (σ 86 43 : Int).toNat (σ 86 43 - 1 : Int).toNat os = -2)) ∧ (∀ j : Nat, (j : Int) < 1 → α' 114 j = α 114 j)) := by
  refine qr_start (d := d + 10) qv_e243 (Nat.le_of_ble_eq_true rfl) ?_
  show qr_W (qe L xs vb) (d + 10) qx_e243 _ (0, [(0, .ref 86), (1, .int (qz 1)), (2, .int (qz x2)), (3, .int (qz x3)), (4, .int (qz x4))], [], _, 0, 0)
  have hF0 := qFr_rf [(86, 15), (86, 23), (86, 30)] [96, 114] σ α
  have hz86_6 : 0 ≤ σ 86 6 ∧ σ 86 6 ≤ 32 := hI.1 86 6
  have hz86_43 : 0 ≤ σ 86 43 ∧ σ 86 43 ≤ 32 := hI.1 86 43
  have hz86_29 : (-9223372036854775808) ≤ σ 86 29 ∧ σ 86 29 ≤ 9223372036854775807 := hI.1 86 29
  have hz86_11 : 0 ≤ σ 86 11 ∧ σ 86 11 ≤ 61 := hI.1 86 11
  have hz86_16 : 0 ≤ σ 86 16 ∧ σ 86 16 ≤ 40 := hI.1 86 16
  have hz86_22 : (-9223372036854775808) ≤ σ 86 22 ∧ σ 86 22 ≤ 9223372036854775807 := hI.1 86 22
  have hz86_24 : 0 ≤ σ 86 24 ∧ σ 86 24 ≤ 60 := hI.1 86 24
  refine qr_iload_n 1 rfl rfl rfl ?_
  refine qr_aload_n 2 rfl rfl rfl ?_
  refine qr_get 5 rfl rfl rfl (by decide) rfl ?_
  refine qr_icmp_ne 10 8 rfl rfl rfl (by decide) (qrg hz86_43 (by decide) (by decide)) (fun h1 => ?_) (fun h1 => ?_)
  · skip
    refine qr_iconst 11 rfl rfl ?_
    refine qr_istore _ 13 rfl (by decide) rfl rfl ?_
    have hL401 : ∀ (n : Nat) (ls : qm_L) (u384 : Int) (σ385 α386 : Nat → Nat → Int), 6 - u384 < (n : Int) → qm_get ls 0 = some (.ref 86) → qm_get ls 1 = some (.int (qz 1)) → qm_get ls 2 = some (.int (qz x2)) → qm_get ls 3 = some (.int (qz x3)) → qm_get ls 4 = some (.int (qz x4)) → qm_get ls 5 = some (.int (qz u384)) → (0 ≤ u384 ∧ u384 ≤ 6) → qI σ385 α386 κ ρ → qFr [(86, 15), (86, 23), (86, 30)] [96, 114] σ α σ385 α386 → σ385 86 6 = (σ 86 6) → σ385 86 11 = (σ 86 11) → σ385 86 16 = (σ 86 16) → σ385 86 22 = (σ 86 22) → σ385 86 24 = (σ 86 24) → σ385 86 29 = (σ 86 29) → σ385 86 43 = (σ 86 43) → α386 110 = (α 110) → (∀ j : Nat, (j : Int) < 1 → α386 114 j = α 114 j) → qfj (qdF (qLB (fun t i o : Int => qClM σ α (x3 + t * (x4 / 100)) (α 110 (i : Int).toNat) (α 110 (o : Int).toNat)) ((x4 % 100) / (x4 / 100))) (σ 86 43 : Int).toNat (σ 86 43 - 2 : Int).toNat os) (u384 : Int).toNat = -2 → u384 ≤ σ 86 43 → qr_W (qe L xs vb) (d + 10) qx_e243 (fun r w' => ∃ σ' α', w' = qw σ' α' κ ρ ∧ qI σ' α' κ ρ ∧ qFr [(86, 15), (86, 23), (86, 30)] [96, 114] σ α σ' α' ∧ ∃ v : Int, r = some (.int (qz v)) ∧ (0 ≤ v ∧ v ≤ 1) ∧ ((v = 1 ∧ qHas (α' 114) (σ 86 43) (qdp (qLB (fun t i o : Int => qClM σ α (x3 + t * (x4 / 100)) (α 110 (i : Int).toNat) (α 110 (o : Int).toNat)) ((x4 % 100) / (x4 / 100))) (σ 86 43 : Int).toNat (σ 86 43 - 1 : Int).toNat os)) ∨ (v = 0 ∧ qdp (qLB (fun t i o : Int => qClM σ α (x3 + t * (x4 / 100)) (α 110 (i : Int).toNat) (α 110 (o : Int).toNat)) ((x4 % 100) / (x4 / 100))) (σ 86 43 : Int).toNat (σ 86 43 - 1 : Int).toNat os = -2)) ∧ (∀ j : Nat, (j : Int) < 1 → α' 114 j = α 114 j)) (13, ls, [], qw σ385 α386 κ ρ, 0, 0) := by
      intro n
      induction n with
      | zero => intro ls u384 σ385 α386 hm g378 g379 g380 g381 g382 g383 hf397 hI387 hF388 hk389 hk390 hk391 hk392 hk393 hk394 hk395 hk396 hx398 hx399 hx400; exact False.elim (by omega)
      | succ n ih402 =>
        intro ls u384 σ385 α386 hm g378 g379 g380 g381 g382 g383 hf397 hI387 hF388 hk389 hk390 hk391 hk392 hk393 hk394 hk395 hk396 hx398 hx399 hx400
        refine qr_iload 15 rfl g383 rfl ?_
        refine qr_aload_n 16 rfl g378 rfl ?_
        refine qr_get 19 rfl rfl rfl (by decide) rfl ?_
        refine qy_v (σ 86 43) ((hk395).trans rfl) ?_
        refine qr_icmp_ge 81 22 rfl rfl rfl (qrg hf397 (by decide) (by decide)) (qrg hz86_43 (by decide) (by decide)) (fun h403 => ?_) (fun h403 => ?_)
        · skip
          refine qr_iconst 82 rfl rfl ?_
          refine qr_retZ rfl rfl (Or.inl rfl) (by decide) (by decide) ?_
          exact ⟨_, _, rfl, hI387, hF388, 0, rfl, (by decide), (Or.inr ⟨rfl, by rw [(qdp_s (k := (σ 86 43 - 2 : Int).toNat) (by omega))]; have hz := hx399; rw [show u384 = σ 86 43 by omega] at hz; exact hz⟩), hx398⟩
        · skip
          refine qr_iload_n 23 rfl g380 rfl ?_
          refine qr_iload 25 rfl g383 rfl ?_
          refine qr_ishr 26 rfl rfl ?_
          refine qy_canE (fun v404 hv404 hev404 => ?_)
          refine qr_iconst 27 rfl rfl ?_
          refine qr_iand 28 rfl rfl ?_
          refine qy_andrE (by omega) (fun v405 hv405 hev405 => ?_)
          refine qr_iconst 29 rfl rfl ?_
          refine qr_icmp_ne 35 32 rfl rfl rfl (by omega) (by decide) (fun h406 => ?_) (fun h406 => ?_)
          · skip
            refine qr_aload_n 36 rfl g378 rfl ?_
            refine qr_get 39 rfl rfl rfl (by decide) rfl ?_
            refine qr_iload_n 40 rfl g379 rfl ?_
            refine qr_iload 42 rfl g383 rfl ?_
            refine qr_iastore 43 rfl (by decide) rfl (by decide) (by decide) rfl ?_
            refine qy_wA (qw_r α386 114 (qzu (α386 114) (1 : Int).toNat u384)) rfl (fun α407 e408 => ?_)
            have hI409 : qI σ385 α407 κ ρ := by rw [e408]; exact qI_r hI387 114 _ rfl (show 0 ≤ u384 ∧ u384 ≤ 5 by omega)
            have hF410 : qFr [(86, 15), (86, 23), (86, 30)] [96, 114] σ α σ385 α407 := by rw [e408]; exact qFr_r hF388 114 _ (by decide)
            refine qr_aload_n 44 rfl g378 rfl ?_
            refine qr_iload_n 45 rfl g379 rfl ?_
            refine qr_iload_n 46 rfl g381 rfl ?_
            refine qr_iload 48 rfl g382 rfl ?_
            have hs411 : (-9223372036854775808) ≤ σ385 86 29 ∧ σ385 86 29 ≤ 9223372036854775807 := hI409.1 86 29
            have hs412 : σ385 86 29 = (σ 86 29) := (hk394).trans rfl
            have hs413 : 0 ≤ σ385 86 43 ∧ σ385 86 43 ≤ 32 := hI409.1 86 43
            have hs414 : σ385 86 43 = (σ 86 43) := (hk395).trans rfl
            have hs415 : 0 ≤ σ385 86 6 ∧ σ385 86 6 ≤ 32 := hI409.1 86 6
            have hs416 : σ385 86 6 = (σ 86 6) := (hk389).trans rfl
            refine qr_callN 51 rfl rfl rfl (sf_244_86x (d := d + 4) hI409 (by decide) r3 r4 (by omega) (by omega) (qZf_fr hF410 (by decide) (by decide) p2) (qZk_fr hF410 (by decide) (by decide) p3) ((hF410.1 86 29 (by decide)).trans p4) (by rw [hF410.2 110 (by decide), hF410.1 86 43 (by decide), hF410.1 86 6 (by decide)]; exact p5) (by omega) (by have hq := qord_r (m := σ 86 43) (by omega) (qLs_ag hx398 p7) (((congrFun e408 114).trans (qw_r_eq.trans (congrArg (fun f => qzu f (1 : Int).toNat u384) rfl)))) p9 (by omega); have hw := hF410.1 86 43 (by decide); rw [hw]; exact hq) (qord_d (by omega) (qLs_ag hx398 p7) (((congrFun e408 114).trans (qw_r_eq.trans (congrArg (fun f => qzu f (1 : Int).toNat u384) rfl)))) (fun hm => absurd ((p8 u384 (by omega) (by omega)).mpr hm) (by have hq := qbi_inS (t := x2) (i := u384) (by omega) hev404 hev405 (by omega); omega)))) ?_
            rintro _ _ ⟨σ419, α420, rfl, hI421, hG422, v417, rfl, hv417, hx418⟩
            have hF423 : qFr [(86, 15), (86, 23), (86, 30)] [96, 114] σ α σ419 α420 := qFr_t hF410 hG422 (by decide) (by decide)
            rw [hF410.2 110 (by decide)] at hx418
            show qr_W (qe L xs vb) (d + 10) qx_e243 _ (51, _, [.int (qz v417)], qw σ419 α420 κ ρ, 0, 0)
            rw [qClM_fr hF410 (by decide) (by decide), show α407 114 (1 : Int).toNat = u384 from qord_a (((congrFun e408 114).trans (qw_r_eq.trans (congrArg (fun f => qzu f (1 : Int).toNat u384) rfl))))] at hx418
            refine qr_if_ne 75 54 rfl rfl rfl (qrg hv417 (by decide) (by decide)) (fun h424 => ?_) (fun h424 => ?_)
            · skip
              refine qr_iinc _ 78 rfl g383 (by decide) rfl rfl ?_
              refine qr_goto 13 rfl rfl ?_
              exact ih402 _ (u384 + 1) σ419 α420 (by omega) (qm_gk g378 (by decide) (Or.inl (by decide))) (qm_gk g379 (by decide) (Or.inl (by decide))) (qm_gk g380 (by decide) (Or.inl (by decide))) (qm_gk g381 (by decide) (Or.inl (by decide))) (qm_gk g382 (by decide) (Or.inr rfl)) (qm_ge _ _ _) (by omega) hI421 hF423 ((hG422.1 86 6 (by decide)).trans ((hk389).trans rfl)) ((hG422.1 86 11 (by decide)).trans ((hk390).trans rfl)) ((hG422.1 86 16 (by decide)).trans ((hk391).trans rfl)) ((hG422.1 86 22 (by decide)).trans ((hk392).trans rfl)) ((hG422.1 86 24 (by decide)).trans ((hk393).trans rfl)) ((hG422.1 86 29 (by decide)).trans ((hk394).trans rfl)) ((hG422.1 86 43 (by decide)).trans ((hk395).trans rfl)) ((hG422.2 110 (by decide)).trans ((congrFun e408 110).trans ((qw_r_ne (by decide)).trans hk396))) (fun j hj => (congrFun (hG422.2 114 (by decide)) j).trans ((qLs_kp (t := 1) (by omega) (((congrFun e408 114).trans (qw_r_eq.trans (congrArg (fun f => qzu f (1 : Int).toNat u384) rfl)))) j hj).trans (hx398 j hj))) (qfj_go (by omega) hx399 (qdF_b (by rcases hx418 with hz | hz; (exact (qLB_of (t := 1) (i := u384) (qord_l (by omega) (qLs_ag hx398 p7) (((congrFun e408 114).trans (qw_r_eq.trans (congrArg (fun f => qzu f (1 : Int).toNat u384) rfl))))) (fun hm => absurd ((p8 u384 (by omega) (by omega)).mpr hm) (by have hq := qbi_inS (t := x2) (i := u384) (by omega) hev404 hev405 (by omega); omega))).mpr hz.2); (omega)))) (by omega)
            · skip
              refine qr_aload_n 55 rfl g378 rfl ?_
              refine qr_iload_n 56 rfl g379 rfl ?_
              refine qr_iconst 57 rfl rfl ?_
              refine qr_iadd 58 rfl rfl ?_
              refine qy_v 2 rfl ?_
              refine qr_iload_n 59 rfl g380 rfl ?_
              refine qr_iconst 60 rfl rfl ?_
              refine qr_iload 62 rfl g383 rfl ?_
              refine qr_ishl 63 rfl rfl ?_
              refine qy_shl1E (N := 5) (by omega) (fun v425 hv425 hev425 => ?_)
              refine qr_ior 64 rfl rfl ?_
              refine qy_canE (fun v426 hv426 hev426 => ?_)
              refine qr_iload_n 65 rfl g381 rfl ?_
              refine qr_iload 67 rfl g382 rfl ?_
              have hs427 : (-9223372036854775808) ≤ σ419 86 29 ∧ σ419 86 29 ≤ 9223372036854775807 := hI421.1 86 29
              have hs428 : σ419 86 29 = (σ 86 29) := (hG422.1 86 29 (by decide)).trans ((hk394).trans rfl)
              have hs429 : 0 ≤ σ419 86 43 ∧ σ419 86 43 ≤ 32 := hI421.1 86 43
              have hs430 : σ419 86 43 = (σ 86 43) := (hG422.1 86 43 (by decide)).trans ((hk395).trans rfl)
              have hs431 : 0 ≤ σ419 86 6 ∧ σ419 86 6 ≤ 32 := hI421.1 86 6
              have hs432 : σ419 86 6 = (σ 86 6) := (hG422.1 86 6 (by decide)).trans ((hk389).trans rfl)
              refine qr_callN 70 rfl rfl rfl (sf_243_86x2 (d := d + 0) hI421 hv426 r3 r4 (by omega) (by omega) (qZf_fr hF423 (by decide) (by decide) p2) (qZk_fr hF423 (by decide) (by decide) p3) ((hF423.1 86 29 (by decide)).trans p4) (by rw [hF423.2 110 (by decide), hF423.1 86 43 (by decide), hF423.1 86 6 (by decide)]; exact p5) (by omega) (by have hq := qLs_nx (qLs_ag hx398 p7) (by omega) (((congrFun e408 114).trans (qw_r_eq.trans (congrArg (fun f => qzu f (1 : Int).toNat u384) rfl)))); rw [← hG422.2 114 (by decide)] at hq; exact hq) (qGo_app p8 (by omega) (by rw [qz_val hev426 (by omega) (qz_or_r _ _), hev425])) (fun o hm => by rw [hF423.1 86 43 (by decide)]; rcases List.mem_append.mp hm with hm | hm; (exact p9 o hm); (rw [List.mem_singleton.mp hm]; omega))) ?_
              rintro _ _ ⟨σ436, α437, rfl, hI438, hG439, v433, rfl, hv433, hx434, hx435⟩
              have hF440 : qFr [(86, 15), (86, 23), (86, 30)] [96, 114] σ α σ436 α437 := qFr_t hF423 hG439 (by decide) (by decide)
              rw [hF423.2 110 (by decide), hF423.1 86 43 (by decide)] at hx434
              show qr_W (qe L xs vb) (d + 10) qx_e243 _ (70, _, [.int (qz v433)], qw σ436 α437 κ ρ, 0, 0)
              rw [qClM_fr hF423 (by decide) (by decide)] at hx434
              refine qr_if_eq 75 73 rfl rfl rfl (qrg hv433 (by decide) (by decide)) (fun h441 => ?_) (fun h441 => ?_)
              · skip
                refine qr_iinc _ 78 rfl g383 (by decide) rfl rfl ?_
                refine qr_goto 13 rfl rfl ?_
                exact ih402 _ (u384 + 1) σ436 α437 (by omega) (qm_gk g378 (by decide) (Or.inl (by decide))) (qm_gk g379 (by decide) (Or.inl (by decide))) (qm_gk g380 (by decide) (Or.inl (by decide))) (qm_gk g381 (by decide) (Or.inl (by decide))) (qm_gk g382 (by decide) (Or.inr rfl)) (qm_ge _ _ _) (by omega) hI438 hF440 ((hG439.1 86 6 (by decide)).trans ((hG422.1 86 6 (by decide)).trans ((hk389).trans rfl))) ((hG439.1 86 11 (by decide)).trans ((hG422.1 86 11 (by decide)).trans ((hk390).trans rfl))) ((hG439.1 86 16 (by decide)).trans ((hG422.1 86 16 (by decide)).trans ((hk391).trans rfl))) ((hG439.1 86 22 (by decide)).trans ((hG422.1 86 22 (by decide)).trans ((hk392).trans rfl))) ((hG439.1 86 24 (by decide)).trans ((hG422.1 86 24 (by decide)).trans ((hk393).trans rfl))) ((hG439.1 86 29 (by decide)).trans ((hG422.1 86 29 (by decide)).trans ((hk394).trans rfl))) ((hG439.1 86 43 (by decide)).trans ((hG422.1 86 43 (by decide)).trans ((hk395).trans rfl))) ((hG439.2 110 (by decide)).trans ((hG422.2 110 (by decide)).trans ((congrFun e408 110).trans ((qw_r_ne (by decide)).trans hk396)))) (fun j hj => (hx435 j (by omega)).trans ((congrFun (hG422.2 114 (by decide)) j).trans ((qLs_kp (t := 1) (by omega) (((congrFun e408 114).trans (qw_r_eq.trans (congrArg (fun f => qzu f (1 : Int).toNat u384) rfl)))) j hj).trans (hx398 j hj)))) (qfj_go (by omega) hx399 (by rw [qdF_n (fun hb => by rcases hx418 with hz | hz; (omega); (exact hz.2 ((qLB_of (t := 1) (i := u384) (qord_l (by omega) (qLs_ag hx398 p7) (((congrFun e408 114).trans (qw_r_eq.trans (congrArg (fun f => qzu f (1 : Int).toNat u384) rfl))))) (fun hm => absurd ((p8 u384 (by omega) (by omega)).mpr hm) (by have hq := qbi_inS (t := x2) (i := u384) (by omega) hev404 hev405 (by omega); omega))).mp hb)))]; rcases hx434 with hz | hz; (omega); (exact hz.2))) (by omega)
              · skip
                refine qr_iconst 74 rfl rfl ?_
                refine qr_retZ rfl rfl (Or.inr rfl) (by decide) (by decide) ?_
                exact ⟨_, _, rfl, hI438, hF440, 1, rfl, (by decide), (by rcases hx434 with hz | hz; (obtain ⟨_, os2, h1, h2, h3⟩ := hz; have hd : qdp (qLB (fun t i o : Int => qClM σ α (x3 + t * (x4 / 100)) (α 110 (i : Int).toNat) (α 110 (o : Int).toNat)) ((x4 % 100) / (x4 / 100))) (σ 86 43 : Int).toNat (σ 86 43 - 1 : Int).toNat os = qdp (qLB (fun t i o : Int => qClM σ α (x3 + t * (x4 / 100)) (α 110 (i : Int).toNat) (α 110 (o : Int).toNat)) ((x4 % 100) / (x4 / 100))) (σ 86 43 : Int).toNat (σ 86 43 - 2 : Int).toNat (os ++ [u384]) := (by rw [(qdp_s (k := (σ 86 43 - 2 : Int).toNat) (by omega))]; exact (qfj_hit (i := u384) (by omega) (by omega) hx399 (qdF_n (fun hb => by rcases hx418 with hz | hz; (omega); (exact hz.2 ((qLB_of (t := 1) (i := u384) (qord_l (by omega) (qLs_ag hx398 p7) (((congrFun e408 114).trans (qw_r_eq.trans (congrArg (fun f => qzu f (1 : Int).toNat u384) rfl))))) (fun hm => absurd ((p8 u384 (by omega) (by omega)).mpr hm) (by have hq := qbi_inS (t := x2) (i := u384) (by omega) hev404 hev405 (by omega); omega))).mp hb)))).symm h3).symm); exact Or.inl ⟨rfl, os2, h1, h2.trans hd.symm, by rw [hd]; exact h3⟩); (omega)), (fun j hj => (hx435 j (by omega)).trans ((congrFun (hG422.2 114 (by decide)) j).trans ((qLs_kp (t := 1) (by omega) (((congrFun e408 114).trans (qw_r_eq.trans (congrArg (fun f => qzu f (1 : Int).toNat u384) rfl)))) j hj).trans (hx398 j hj))))⟩
          · skip
            refine qr_goto 75 rfl rfl ?_
            refine qr_iinc _ 78 rfl g383 (by decide) rfl rfl ?_
            refine qr_goto 13 rfl rfl ?_
            exact ih402 _ (u384 + 1) σ385 α386 (by omega) (qm_gk g378 (by decide) (Or.inl (by decide))) (qm_gk g379 (by decide) (Or.inl (by decide))) (qm_gk g380 (by decide) (Or.inl (by decide))) (qm_gk g381 (by decide) (Or.inl (by decide))) (qm_gk g382 (by decide) (Or.inr rfl)) (qm_ge _ _ _) (by omega) hI387 hF388 ((hk389).trans rfl) ((hk390).trans rfl) ((hk391).trans rfl) ((hk392).trans rfl) ((hk393).trans rfl) ((hk394).trans rfl) ((hk395).trans rfl) hk396 hx398 (qfj_go (by omega) hx399 (qdF_b (Or.inl ((p8 u384 (by omega) (by omega)).mp (by have hq := qbi_inS (t := x2) (i := u384) (by omega) hev404 hev405 (by omega); omega))))) (by omega)
    exact hL401 ((6 - 0 + 1 : Int)).toNat _ 0 σ α (by omega) rfl rfl rfl rfl rfl rfl (by decide) hI hF0 (rfl) (rfl) (rfl) (rfl) (rfl) (rfl) (rfl) rfl (fun _ _ => rfl) rfl (by omega)
  · skip
    refine qr_iconst 9 rfl rfl ?_
    refine qr_retZ rfl rfl (Or.inr rfl) (by decide) (by decide) ?_
    exact ⟨_, _, rfl, hI, hF0, 1, rfl, (by decide), (Or.inl ⟨rfl, os, (by rw [show σ 86 43 = 1 by omega]; exact p7), (show qdp (qLB (fun t i o : Int => qClM σ α (x3 + t * (x4 / 100)) (α 110 (i : Int).toNat) (α 110 (o : Int).toNat)) ((x4 % 100) / (x4 / 100))) (σ 86 43 : Int).toNat (σ 86 43 - 1 : Int).toNat os = qdg os by rw [show (σ 86 43 - 1 : Int).toNat = 0 by omega]; rfl).symm, by rw [(show qdp (qLB (fun t i o : Int => qClM σ α (x3 + t * (x4 / 100)) (α 110 (i : Int).toNat) (α 110 (o : Int).toNat)) ((x4 % 100) / (x4 / 100))) (σ 86 43 : Int).toNat (σ 86 43 - 1 : Int).toNat os = qdg os by rw [show (σ 86 43 - 1 : Int).toNat = 0 by omega]; rfl)]; have hz := qdg_nn _ os rfl (fun o ho => (p9 o ho).1); omega⟩), (fun _ _ => rfl)⟩

set_option maxHeartbeats 4000000 in
set_option maxRecDepth 20000 in
/-- OneRoofModel.orders -/
theorem sf_243_86x0 {L : Nat} {xs : Nat → Int} {vb : Bool} {d : Nat} {σ α : Nat → Nat → Int} {κ : Nat → Option Nat} {ρ : Nat} {x2 : Int} {x3 : Int} {x4 : Int} {os : List Int} (hI : qI σ α κ ρ) (r2 : (-2147483648) ≤ x2 ∧ x2 ≤ 2147483647) (r3 : 0 ≤ x3 ∧ x3 ≤ 2399) (r4 : 100 ≤ x4 ∧ x4 ≤ 2499) (p0 : 1 ≤ σ 86 6) (p1 : σ 86 43 ≤ 6) (p2 : qZf σ α) (p3 : qZk σ α) (p4 : σ 86 29 = 0) (p5 : qSr (α 110) (σ 86 43) (σ 86 6)) (p6 : 0 ≤ σ 86 43) (p7 : qLs (α 114) 0 os) (p8 : qGo x2 os) (p9 : ∀ o ∈ os, 0 ≤ o ∧ o < σ 86 43) : qm_T (qe L xs vb) (d + 12) 243 [.ref 86, .int (qz 0), .int (qz x2), .int (qz x3), .int (qz x4)] (qw σ α κ ρ) (fun r w' => ∃ σ' α', w' = qw σ' α' κ ρ ∧ qI σ' α' κ ρ ∧ qFr [(86, 15), (86, 23), (86, 30)] [96, 114] σ α σ' α' ∧ ∃ v : Int, r = some (.int (qz v)) ∧ (0 ≤ v ∧ v ≤ 1) ∧ ((v = 1 ∧ qHas (α' 114) (σ 86 43) (qdp (qLB (fun t i o : Int => qClM σ α (x3 + t * (x4 / 100)) (α 110 (i : Int).toNat) (α 110 (o : Int).toNat)) ((x4 % 100) / (x4 / 100))) (σ 86 43 : Int).toNat (σ 86 43 - 0 : Int).toNat os)) ∨ (v = 0 ∧ qdp (qLB (fun t i o : Int => qClM σ α (x3 + t * (x4 / 100)) (α 110 (i : Int).toNat) (α 110 (o : Int).toNat)) ((x4 % 100) / (x4 / 100))) (σ 86 43 : Int).toNat (σ 86 43 - 0 : Int).toNat os = -2)) ∧ (∀ j : Nat, (j : Int) < 0 → α' 114 j = α 114 j)) := by
  refine qr_start (d := d + 11) qv_e243 (Nat.le_of_ble_eq_true rfl) ?_
  show qr_W (qe L xs vb) (d + 11) qx_e243 _ (0, [(0, .ref 86), (1, .int (qz 0)), (2, .int (qz x2)), (3, .int (qz x3)), (4, .int (qz x4))], [], _, 0, 0)
  have hF0 := qFr_rf [(86, 15), (86, 23), (86, 30)] [96, 114] σ α
  have hz86_6 : 0 ≤ σ 86 6 ∧ σ 86 6 ≤ 32 := hI.1 86 6
  have hz86_43 : 0 ≤ σ 86 43 ∧ σ 86 43 ≤ 32 := hI.1 86 43
  have hz86_29 : (-9223372036854775808) ≤ σ 86 29 ∧ σ 86 29 ≤ 9223372036854775807 := hI.1 86 29
  have hz86_11 : 0 ≤ σ 86 11 ∧ σ 86 11 ≤ 61 := hI.1 86 11
  have hz86_16 : 0 ≤ σ 86 16 ∧ σ 86 16 ≤ 40 := hI.1 86 16
  have hz86_22 : (-9223372036854775808) ≤ σ 86 22 ∧ σ 86 22 ≤ 9223372036854775807 := hI.1 86 22
  have hz86_24 : 0 ≤ σ 86 24 ∧ σ 86 24 ≤ 60 := hI.1 86 24
  refine qr_iload_n 1 rfl rfl rfl ?_
  refine qr_aload_n 2 rfl rfl rfl ?_
  refine qr_get 5 rfl rfl rfl (by decide) rfl ?_
  refine qr_icmp_ne 10 8 rfl rfl rfl (by decide) (qrg hz86_43 (by decide) (by decide)) (fun h1 => ?_) (fun h1 => ?_)
  · skip
    refine qr_iconst 11 rfl rfl ?_
    refine qr_istore _ 13 rfl (by decide) rfl rfl ?_
    have hL401 : ∀ (n : Nat) (ls : qm_L) (u384 : Int) (σ385 α386 : Nat → Nat → Int), 6 - u384 < (n : Int) → qm_get ls 0 = some (.ref 86) → qm_get ls 1 = some (.int (qz 0)) → qm_get ls 2 = some (.int (qz x2)) → qm_get ls 3 = some (.int (qz x3)) → qm_get ls 4 = some (.int (qz x4)) → qm_get ls 5 = some (.int (qz u384)) → (0 ≤ u384 ∧ u384 ≤ 6) → qI σ385 α386 κ ρ → qFr [(86, 15), (86, 23), (86, 30)] [96, 114] σ α σ385 α386 → σ385 86 6 = (σ 86 6) → σ385 86 11 = (σ 86 11) → σ385 86 16 = (σ 86 16) → σ385 86 22 = (σ 86 22) → σ385 86 24 = (σ 86 24) → σ385 86 29 = (σ 86 29) → σ385 86 43 = (σ 86 43) → α386 110 = (α 110) → (∀ j : Nat, (j : Int) < 0 → α386 114 j = α 114 j) → qfj (qdF (qLB (fun t i o : Int => qClM σ α (x3 + t * (x4 / 100)) (α 110 (i : Int).toNat) (α 110 (o : Int).toNat)) ((x4 % 100) / (x4 / 100))) (σ 86 43 : Int).toNat (σ 86 43 - 1 : Int).toNat os) (u384 : Int).toNat = -2 → u384 ≤ σ 86 43 → qr_W (qe L xs vb) (d + 11) qx_e243 (fun r w' => ∃ σ' α', w' = qw σ' α' κ ρ ∧ qI σ' α' κ ρ ∧ qFr [(86, 15), (86, 23), (86, 30)] [96, 114] σ α σ' α' ∧ ∃ v : Int, r = some (.int (qz v)) ∧ (0 ≤ v ∧ v ≤ 1) ∧ ((v = 1 ∧ qHas (α' 114) (σ 86 43) (qdp (qLB (fun t i o : Int => qClM σ α (x3 + t * (x4 / 100)) (α 110 (i : Int).toNat) (α 110 (o : Int).toNat)) ((x4 % 100) / (x4 / 100))) (σ 86 43 : Int).toNat (σ 86 43 - 0 : Int).toNat os)) ∨ (v = 0 ∧ qdp (qLB (fun t i o : Int => qClM σ α (x3 + t * (x4 / 100)) (α 110 (i : Int).toNat) (α 110 (o : Int).toNat)) ((x4 % 100) / (x4 / 100))) (σ 86 43 : Int).toNat (σ 86 43 - 0 : Int).toNat os = -2)) ∧ (∀ j : Nat, (j : Int) < 0 → α' 114 j = α 114 j)) (13, ls, [], qw σ385 α386 κ ρ, 0, 0) := by
      intro n
      induction n with
      | zero => intro ls u384 σ385 α386 hm g378 g379 g380 g381 g382 g383 hf397 hI387 hF388 hk389 hk390 hk391 hk392 hk393 hk394 hk395 hk396 hx398 hx399 hx400; exact False.elim (by omega)
      | succ n ih402 =>
        intro ls u384 σ385 α386 hm g378 g379 g380 g381 g382 g383 hf397 hI387 hF388 hk389 hk390 hk391 hk392 hk393 hk394 hk395 hk396 hx398 hx399 hx400
        refine qr_iload 15 rfl g383 rfl ?_
        refine qr_aload_n 16 rfl g378 rfl ?_
        refine qr_get 19 rfl rfl rfl (by decide) rfl ?_
        refine qy_v (σ 86 43) ((hk395).trans rfl) ?_
        refine qr_icmp_ge 81 22 rfl rfl rfl (qrg hf397 (by decide) (by decide)) (qrg hz86_43 (by decide) (by decide)) (fun h403 => ?_) (fun h403 => ?_)
        · skip
          refine qr_iconst 82 rfl rfl ?_
          refine qr_retZ rfl rfl (Or.inl rfl) (by decide) (by decide) ?_
          exact ⟨_, _, rfl, hI387, hF388, 0, rfl, (by decide), (Or.inr ⟨rfl, by rw [(qdp_s (k := (σ 86 43 - 1 : Int).toNat) (by omega))]; have hz := hx399; rw [show u384 = σ 86 43 by omega] at hz; exact hz⟩), hx398⟩
        · skip
          refine qr_iload_n 23 rfl g380 rfl ?_
          refine qr_iload 25 rfl g383 rfl ?_
          refine qr_ishr 26 rfl rfl ?_
          refine qy_canE (fun v404 hv404 hev404 => ?_)
          refine qr_iconst 27 rfl rfl ?_
          refine qr_iand 28 rfl rfl ?_
          refine qy_andrE (by omega) (fun v405 hv405 hev405 => ?_)
          refine qr_iconst 29 rfl rfl ?_
          refine qr_icmp_ne 35 32 rfl rfl rfl (by omega) (by decide) (fun h406 => ?_) (fun h406 => ?_)
          · skip
            refine qr_aload_n 36 rfl g378 rfl ?_
            refine qr_get 39 rfl rfl rfl (by decide) rfl ?_
            refine qr_iload_n 40 rfl g379 rfl ?_
            refine qr_iload 42 rfl g383 rfl ?_
            refine qr_iastore 43 rfl (by decide) rfl (by decide) (by decide) rfl ?_
            refine qy_wA (qw_r α386 114 (qzu (α386 114) (0 : Int).toNat u384)) rfl (fun α407 e408 => ?_)
            have hI409 : qI σ385 α407 κ ρ := by rw [e408]; exact qI_r hI387 114 _ rfl (show 0 ≤ u384 ∧ u384 ≤ 5 by omega)
            have hF410 : qFr [(86, 15), (86, 23), (86, 30)] [96, 114] σ α σ385 α407 := by rw [e408]; exact qFr_r hF388 114 _ (by decide)
            refine qr_aload_n 44 rfl g378 rfl ?_
            refine qr_iload_n 45 rfl g379 rfl ?_
            refine qr_iload_n 46 rfl g381 rfl ?_
            refine qr_iload 48 rfl g382 rfl ?_
            have hs411 : (-9223372036854775808) ≤ σ385 86 29 ∧ σ385 86 29 ≤ 9223372036854775807 := hI409.1 86 29
            have hs412 : σ385 86 29 = (σ 86 29) := (hk394).trans rfl
            have hs413 : 0 ≤ σ385 86 43 ∧ σ385 86 43 ≤ 32 := hI409.1 86 43
            have hs414 : σ385 86 43 = (σ 86 43) := (hk395).trans rfl
            have hs415 : 0 ≤ σ385 86 6 ∧ σ385 86 6 ≤ 32 := hI409.1 86 6
            have hs416 : σ385 86 6 = (σ 86 6) := (hk389).trans rfl
            refine qr_callN 51 rfl rfl rfl (sf_244_86x (d := d + 5) hI409 (by decide) r3 r4 (by omega) (by omega) (qZf_fr hF410 (by decide) (by decide) p2) (qZk_fr hF410 (by decide) (by decide) p3) ((hF410.1 86 29 (by decide)).trans p4) (by rw [hF410.2 110 (by decide), hF410.1 86 43 (by decide), hF410.1 86 6 (by decide)]; exact p5) (by omega) (by have hq := qord_r (m := σ 86 43) (by omega) (qLs_ag hx398 p7) (((congrFun e408 114).trans (qw_r_eq.trans (congrArg (fun f => qzu f (0 : Int).toNat u384) rfl)))) p9 (by omega); have hw := hF410.1 86 43 (by decide); rw [hw]; exact hq) (qord_d (by omega) (qLs_ag hx398 p7) (((congrFun e408 114).trans (qw_r_eq.trans (congrArg (fun f => qzu f (0 : Int).toNat u384) rfl)))) (fun hm => absurd ((p8 u384 (by omega) (by omega)).mpr hm) (by have hq := qbi_inS (t := x2) (i := u384) (by omega) hev404 hev405 (by omega); omega)))) ?_
            rintro _ _ ⟨σ419, α420, rfl, hI421, hG422, v417, rfl, hv417, hx418⟩
            have hF423 : qFr [(86, 15), (86, 23), (86, 30)] [96, 114] σ α σ419 α420 := qFr_t hF410 hG422 (by decide) (by decide)
            rw [hF410.2 110 (by decide)] at hx418
            show qr_W (qe L xs vb) (d + 11) qx_e243 _ (51, _, [.int (qz v417)], qw σ419 α420 κ ρ, 0, 0)
            rw [qClM_fr hF410 (by decide) (by decide), show α407 114 (0 : Int).toNat = u384 from qord_a (((congrFun e408 114).trans (qw_r_eq.trans (congrArg (fun f => qzu f (0 : Int).toNat u384) rfl))))] at hx418
            refine qr_if_ne 75 54 rfl rfl rfl (qrg hv417 (by decide) (by decide)) (fun h424 => ?_) (fun h424 => ?_)
            · skip
              refine qr_iinc _ 78 rfl g383 (by decide) rfl rfl ?_
              refine qr_goto 13 rfl rfl ?_
              exact ih402 _ (u384 + 1) σ419 α420 (by omega) (qm_gk g378 (by decide) (Or.inl (by decide))) (qm_gk g379 (by decide) (Or.inl (by decide))) (qm_gk g380 (by decide) (Or.inl (by decide))) (qm_gk g381 (by decide) (Or.inl (by decide))) (qm_gk g382 (by decide) (Or.inr rfl)) (qm_ge _ _ _) (by omega) hI421 hF423 ((hG422.1 86 6 (by decide)).trans ((hk389).trans rfl)) ((hG422.1 86 11 (by decide)).trans ((hk390).trans rfl)) ((hG422.1 86 16 (by decide)).trans ((hk391).trans rfl)) ((hG422.1 86 22 (by decide)).trans ((hk392).trans rfl)) ((hG422.1 86 24 (by decide)).trans ((hk393).trans rfl)) ((hG422.1 86 29 (by decide)).trans ((hk394).trans rfl)) ((hG422.1 86 43 (by decide)).trans ((hk395).trans rfl)) ((hG422.2 110 (by decide)).trans ((congrFun e408 110).trans ((qw_r_ne (by decide)).trans hk396))) (fun j hj => (congrFun (hG422.2 114 (by decide)) j).trans ((qLs_kp (t := 0) (by omega) (((congrFun e408 114).trans (qw_r_eq.trans (congrArg (fun f => qzu f (0 : Int).toNat u384) rfl)))) j hj).trans (hx398 j hj))) (qfj_go (by omega) hx399 (qdF_b (by rcases hx418 with hz | hz; (exact (qLB_of (t := 0) (i := u384) (qord_l (by omega) (qLs_ag hx398 p7) (((congrFun e408 114).trans (qw_r_eq.trans (congrArg (fun f => qzu f (0 : Int).toNat u384) rfl))))) (fun hm => absurd ((p8 u384 (by omega) (by omega)).mpr hm) (by have hq := qbi_inS (t := x2) (i := u384) (by omega) hev404 hev405 (by omega); omega))).mpr hz.2); (omega)))) (by omega)
            · skip
              refine qr_aload_n 55 rfl g378 rfl ?_
              refine qr_iload_n 56 rfl g379 rfl ?_
              refine qr_iconst 57 rfl rfl ?_
              refine qr_iadd 58 rfl rfl ?_
              refine qy_v 1 rfl ?_
              refine qr_iload_n 59 rfl g380 rfl ?_
              refine qr_iconst 60 rfl rfl ?_
              refine qr_iload 62 rfl g383 rfl ?_
              refine qr_ishl 63 rfl rfl ?_
              refine qy_shl1E (N := 5) (by omega) (fun v425 hv425 hev425 => ?_)
              refine qr_ior 64 rfl rfl ?_
              refine qy_canE (fun v426 hv426 hev426 => ?_)
              refine qr_iload_n 65 rfl g381 rfl ?_
              refine qr_iload 67 rfl g382 rfl ?_
              have hs427 : (-9223372036854775808) ≤ σ419 86 29 ∧ σ419 86 29 ≤ 9223372036854775807 := hI421.1 86 29
              have hs428 : σ419 86 29 = (σ 86 29) := (hG422.1 86 29 (by decide)).trans ((hk394).trans rfl)
              have hs429 : 0 ≤ σ419 86 43 ∧ σ419 86 43 ≤ 32 := hI421.1 86 43
              have hs430 : σ419 86 43 = (σ 86 43) := (hG422.1 86 43 (by decide)).trans ((hk395).trans rfl)
              have hs431 : 0 ≤ σ419 86 6 ∧ σ419 86 6 ≤ 32 := hI421.1 86 6
              have hs432 : σ419 86 6 = (σ 86 6) := (hG422.1 86 6 (by decide)).trans ((hk389).trans rfl)
              refine qr_callN 70 rfl rfl rfl (sf_243_86x1 (d := d + 0) hI421 hv426 r3 r4 (by omega) (by omega) (qZf_fr hF423 (by decide) (by decide) p2) (qZk_fr hF423 (by decide) (by decide) p3) ((hF423.1 86 29 (by decide)).trans p4) (by rw [hF423.2 110 (by decide), hF423.1 86 43 (by decide), hF423.1 86 6 (by decide)]; exact p5) (by omega) (by have hq := qLs_nx (qLs_ag hx398 p7) (by omega) (((congrFun e408 114).trans (qw_r_eq.trans (congrArg (fun f => qzu f (0 : Int).toNat u384) rfl)))); rw [← hG422.2 114 (by decide)] at hq; exact hq) (qGo_app p8 (by omega) (by rw [qz_val hev426 (by omega) (qz_or_r _ _), hev425])) (fun o hm => by rw [hF423.1 86 43 (by decide)]; rcases List.mem_append.mp hm with hm | hm; (exact p9 o hm); (rw [List.mem_singleton.mp hm]; omega))) ?_
              rintro _ _ ⟨σ436, α437, rfl, hI438, hG439, v433, rfl, hv433, hx434, hx435⟩
              have hF440 : qFr [(86, 15), (86, 23), (86, 30)] [96, 114] σ α σ436 α437 := qFr_t hF423 hG439 (by decide) (by decide)
              rw [hF423.2 110 (by decide), hF423.1 86 43 (by decide)] at hx434
              show qr_W (qe L xs vb) (d + 11) qx_e243 _ (70, _, [.int (qz v433)], qw σ436 α437 κ ρ, 0, 0)
              rw [qClM_fr hF423 (by decide) (by decide)] at hx434
              refine qr_if_eq 75 73 rfl rfl rfl (qrg hv433 (by decide) (by decide)) (fun h441 => ?_) (fun h441 => ?_)
              · skip
                refine qr_iinc _ 78 rfl g383 (by decide) rfl rfl ?_
                refine qr_goto 13 rfl rfl ?_
                exact ih402 _ (u384 + 1) σ436 α437 (by omega) (qm_gk g378 (by decide) (Or.inl (by decide))) (qm_gk g379 (by decide) (Or.inl (by decide))) (qm_gk g380 (by decide) (Or.inl (by decide))) (qm_gk g381 (by decide) (Or.inl (by decide))) (qm_gk g382 (by decide) (Or.inr rfl)) (qm_ge _ _ _) (by omega) hI438 hF440 ((hG439.1 86 6 (by decide)).trans ((hG422.1 86 6 (by decide)).trans ((hk389).trans rfl))) ((hG439.1 86 11 (by decide)).trans ((hG422.1 86 11 (by decide)).trans ((hk390).trans rfl))) ((hG439.1 86 16 (by decide)).trans ((hG422.1 86 16 (by decide)).trans ((hk391).trans rfl))) ((hG439.1 86 22 (by decide)).trans ((hG422.1 86 22 (by decide)).trans ((hk392).trans rfl))) ((hG439.1 86 24 (by decide)).trans ((hG422.1 86 24 (by decide)).trans ((hk393).trans rfl))) ((hG439.1 86 29 (by decide)).trans ((hG422.1 86 29 (by decide)).trans ((hk394).trans rfl))) ((hG439.1 86 43 (by decide)).trans ((hG422.1 86 43 (by decide)).trans ((hk395).trans rfl))) ((hG439.2 110 (by decide)).trans ((hG422.2 110 (by decide)).trans ((congrFun e408 110).trans ((qw_r_ne (by decide)).trans hk396)))) (fun j hj => (hx435 j (by omega)).trans ((congrFun (hG422.2 114 (by decide)) j).trans ((qLs_kp (t := 0) (by omega) (((congrFun e408 114).trans (qw_r_eq.trans (congrArg (fun f => qzu f (0 : Int).toNat u384) rfl)))) j hj).trans (hx398 j hj)))) (qfj_go (by omega) hx399 (by rw [qdF_n (fun hb => by rcases hx418 with hz | hz; (omega); (exact hz.2 ((qLB_of (t := 0) (i := u384) (qord_l (by omega) (qLs_ag hx398 p7) (((congrFun e408 114).trans (qw_r_eq.trans (congrArg (fun f => qzu f (0 : Int).toNat u384) rfl))))) (fun hm => absurd ((p8 u384 (by omega) (by omega)).mpr hm) (by have hq := qbi_inS (t := x2) (i := u384) (by omega) hev404 hev405 (by omega); omega))).mp hb)))]; rcases hx434 with hz | hz; (omega); (exact hz.2))) (by omega)
              · skip
                refine qr_iconst 74 rfl rfl ?_
                refine qr_retZ rfl rfl (Or.inr rfl) (by decide) (by decide) ?_
                exact ⟨_, _, rfl, hI438, hF440, 1, rfl, (by decide), (by rcases hx434 with hz | hz; (obtain ⟨_, os2, h1, h2, h3⟩ := hz; have hd : qdp (qLB (fun t i o : Int => qClM σ α (x3 + t * (x4 / 100)) (α 110 (i : Int).toNat) (α 110 (o : Int).toNat)) ((x4 % 100) / (x4 / 100))) (σ 86 43 : Int).toNat (σ 86 43 - 0 : Int).toNat os = qdp (qLB (fun t i o : Int => qClM σ α (x3 + t * (x4 / 100)) (α 110 (i : Int).toNat) (α 110 (o : Int).toNat)) ((x4 % 100) / (x4 / 100))) (σ 86 43 : Int).toNat (σ 86 43 - 1 : Int).toNat (os ++ [u384]) := (by rw [(qdp_s (k := (σ 86 43 - 1 : Int).toNat) (by omega))]; exact (qfj_hit (i := u384) (by omega) (by omega) hx399 (qdF_n (fun hb => by rcases hx418 with hz | hz; (omega); (exact hz.2 ((qLB_of (t := 0) (i := u384) (qord_l (by omega) (qLs_ag hx398 p7) (((congrFun e408 114).trans (qw_r_eq.trans (congrArg (fun f => qzu f (0 : Int).toNat u384) rfl))))) (fun hm => absurd ((p8 u384 (by omega) (by omega)).mpr hm) (by have hq := qbi_inS (t := x2) (i := u384) (by omega) hev404 hev405 (by omega); omega))).mp hb)))).symm h3).symm); exact Or.inl ⟨rfl, os2, h1, h2.trans hd.symm, by rw [hd]; exact h3⟩); (omega)), (fun j hj => (hx435 j (by omega)).trans ((congrFun (hG422.2 114 (by decide)) j).trans ((qLs_kp (t := 0) (by omega) (((congrFun e408 114).trans (qw_r_eq.trans (congrArg (fun f => qzu f (0 : Int).toNat u384) rfl)))) j hj).trans (hx398 j hj))))⟩
          · skip
            refine qr_goto 75 rfl rfl ?_
            refine qr_iinc _ 78 rfl g383 (by decide) rfl rfl ?_
            refine qr_goto 13 rfl rfl ?_
            exact ih402 _ (u384 + 1) σ385 α386 (by omega) (qm_gk g378 (by decide) (Or.inl (by decide))) (qm_gk g379 (by decide) (Or.inl (by decide))) (qm_gk g380 (by decide) (Or.inl (by decide))) (qm_gk g381 (by decide) (Or.inl (by decide))) (qm_gk g382 (by decide) (Or.inr rfl)) (qm_ge _ _ _) (by omega) hI387 hF388 ((hk389).trans rfl) ((hk390).trans rfl) ((hk391).trans rfl) ((hk392).trans rfl) ((hk393).trans rfl) ((hk394).trans rfl) ((hk395).trans rfl) hk396 hx398 (qfj_go (by omega) hx399 (qdF_b (Or.inl ((p8 u384 (by omega) (by omega)).mp (by have hq := qbi_inS (t := x2) (i := u384) (by omega) hev404 hev405 (by omega); omega))))) (by omega)
    exact hL401 ((6 - 0 + 1 : Int)).toNat _ 0 σ α (by omega) rfl rfl rfl rfl rfl rfl (by decide) hI hF0 (rfl) (rfl) (rfl) (rfl) (rfl) (rfl) (rfl) rfl (fun _ _ => rfl) rfl (by omega)
  · skip
    refine qr_iconst 9 rfl rfl ?_
    refine qr_retZ rfl rfl (Or.inr rfl) (by decide) (by decide) ?_
    exact ⟨_, _, rfl, hI, hF0, 1, rfl, (by decide), (Or.inl ⟨rfl, os, (by rw [show σ 86 43 = 0 by omega]; exact p7), (show qdp (qLB (fun t i o : Int => qClM σ α (x3 + t * (x4 / 100)) (α 110 (i : Int).toNat) (α 110 (o : Int).toNat)) ((x4 % 100) / (x4 / 100))) (σ 86 43 : Int).toNat (σ 86 43 - 0 : Int).toNat os = qdg os by rw [show (σ 86 43 - 0 : Int).toNat = 0 by omega]; rfl).symm, by rw [(show qdp (qLB (fun t i o : Int => qClM σ α (x3 + t * (x4 / 100)) (α 110 (i : Int).toNat) (α 110 (o : Int).toNat)) ((x4 % 100) / (x4 / 100))) (σ 86 43 : Int).toNat (σ 86 43 - 0 : Int).toNat os = qdg os by rw [show (σ 86 43 - 0 : Int).toNat = 0 by omega]; rfl)]; have hz := qdg_nn _ os rfl (fun o ho => (p9 o ho).1); omega⟩), (fun _ _ => rfl)⟩

set_option maxHeartbeats 4000000 in
set_option maxRecDepth 20000 in
/-- OneRoofModel.leave -/
theorem sf_242_86x {L : Nat} {xs : Nat → Int} {vb : Bool} {d : Nat} {σ α : Nat → Nat → Int} {κ : Nat → Option Nat} {ρ : Nat} {x1 : Int} {x2 : Int} {x3 : Int} (hI : qI σ α κ ρ) (r1 : (-9223372036854775808) ≤ x1 ∧ x1 ≤ 9223372036854775807) (r2 : (-2147483648) ≤ x2 ∧ x2 ≤ 2147483647) (r3 : (-2147483648) ≤ x3 ∧ x3 ≤ 2147483647) (p0 : qZf σ α) (p1 : qZk σ α) (p2 : σ 86 29 = 0) : qm_T (qe L xs vb) (d + 13) 242 [.ref 86, .long (ql x1), .int (qz x2), .int (qz x3)] (qw σ α κ ρ) (fun r w' => ∃ σ' α', w' = qw σ' α' κ ρ ∧ qI σ' α' κ ρ ∧ qFr [(86, 15), (86, 23), (86, 30), (86, 43)] [96, 110, 114] σ α σ' α' ∧ ∃ v : Int, r = some (.int (qz v)) ∧ ((-2147483648) ≤ v ∧ v ≤ 2147483647) ∧ ((v = -1 ∧ ¬ (0 ≤ x2 ∧ x2 ≤ 2399 ∧ 100 ≤ x3 ∧ x3 ≤ 2499 ∧ qst x1 (σ 86 6) ∧ 1 ≤ qsm (fun k : Nat => qbit (ql_and x1 (ql_xor (σ 86 10) (-1))) (k : Int)) (σ 86 6 : Int).toNat ∧ qsm (fun k : Nat => qbit (ql_and x1 (ql_xor (σ 86 10) (-1))) (k : Int)) (σ 86 6 : Int).toNat ≤ 6)) ∨ ((0 ≤ x2 ∧ x2 ≤ 2399 ∧ 100 ≤ x3 ∧ x3 ≤ 2499 ∧ qst x1 (σ 86 6) ∧ 1 ≤ qsm (fun k : Nat => qbit (ql_and x1 (ql_xor (σ 86 10) (-1))) (k : Int)) (σ 86 6 : Int).toNat ∧ qsm (fun k : Nat => qbit (ql_and x1 (ql_xor (σ 86 10) (-1))) (k : Int)) (σ 86 6 : Int).toNat ≤ 6) ∧ qLs (α' 110) (σ' 86 43) (qBr (fun k : Nat => qbit (ql_and x1 (ql_xor (σ 86 10) (-1))) (k : Int)) (σ 86 6 : Int).toNat) ∧ v = qdp (qLB (fun t i o : Int => qClM σ α (x2 + t * (x3 / 100)) (α' 110 (i : Int).toNat) (α' 110 (o : Int).toNat)) ((x3 % 100) / (x3 / 100))) (σ' 86 43 : Int).toNat (σ' 86 43 : Int).toNat []))) := by
  refine qr_start (d := d + 12) qv_e242 (Nat.le_of_ble_eq_true rfl) ?_
  show qr_W (qe L xs vb) (d + 12) qx_e242 _ (0, [(0, .ref 86), (1, .long (ql x1)), (3, .int (qz x2)), (4, .int (qz x3))], [], _, 0, 0)
  have hF0 := qFr_rf [(86, 15), (86, 23), (86, 30), (86, 43)] [96, 110, 114] σ α
  have hz86_29 : (-9223372036854775808) ≤ σ 86 29 ∧ σ 86 29 ≤ 9223372036854775807 := hI.1 86 29
  have hz86_6 : 0 ≤ σ 86 6 ∧ σ 86 6 ≤ 32 := hI.1 86 6
  have hz86_10 : (-9223372036854775808) ≤ σ 86 10 ∧ σ 86 10 ≤ 9223372036854775807 := hI.1 86 10
  have hz86_24 : 0 ≤ σ 86 24 ∧ σ 86 24 ≤ 60 := hI.1 86 24
  have hz86_43 : 0 ≤ σ 86 43 ∧ σ 86 43 ≤ 32 := hI.1 86 43
  refine qr_iload_n 1 rfl rfl rfl ?_
  refine qr_callN 4 rfl rfl rfl (sf_192 (d := d + 10) hI r2) ?_
  rintro _ _ ⟨rfl, v1, rfl, hv1, hp2⟩
  show qr_W (qe L xs vb) (d + 12) qx_e242 _ (4, _, [.int (qz v1)], qw σ α κ ρ, 0, 0)
  refine qr_if_eq 32 7 rfl rfl rfl (qrg hv1 (by decide) (by decide)) (fun h3 => ?_) (fun h3 => ?_)
  · skip
    refine qr_iconst 33 rfl rfl ?_
    refine qr_retI rfl rfl (by decide) (by decide) ?_
    exact ⟨_, _, rfl, hI, hF0, (-1), rfl, (by decide), (Or.inl ⟨rfl, fun hc => by obtain ⟨c1, c2, c3, c4, c5, c6, c7⟩ := hc; first | omega⟩)⟩
  · skip
    refine qr_iload 9 rfl rfl rfl ?_
    refine qr_i2l 10 rfl r3 rfl ?_
    refine qr_ldc2 100 13 rfl (by decide) rfl ?_
    refine qr_ldc2 2499 16 rfl (by decide) rfl ?_
    refine qr_callN 19 rfl rfl rfl (sf_176 (d := d + 11) hI (qrg r3 (by decide) (by decide)) (by decide) (by decide)) ?_
    rintro _ _ ⟨rfl, v4, rfl, hv4, hp5⟩
    show qr_W (qe L xs vb) (d + 12) qx_e242 _ (19, _, [.int (qz v4)], qw σ α κ ρ, 0, 0)
    refine qr_if_eq 32 22 rfl rfl rfl (qrg hv4 (by decide) (by decide)) (fun h6 => ?_) (fun h6 => ?_)
    · skip
      refine qr_iconst 33 rfl rfl ?_
      refine qr_retI rfl rfl (by decide) (by decide) ?_
      exact ⟨_, _, rfl, hI, hF0, (-1), rfl, (by decide), (Or.inl ⟨rfl, fun hc => by obtain ⟨c1, c2, c3, c4, c5, c6, c7⟩ := hc; first | omega⟩)⟩
    · skip
      refine qr_aload_n 23 rfl rfl rfl ?_
      refine qr_lload_n 24 rfl rfl rfl ?_
      refine qr_bipush 26 rfl (by decide) rfl ?_
      refine qr_callN 29 rfl rfl rfl (sf_234_86x (d := d + 10) hI r1 (by decide)) ?_
      have hs10 : 0 ≤ σ 86 6 ∧ σ 86 6 ≤ 32 := hI.1 86 6
      rintro _ _ ⟨σ11, α12, rfl, hI13, hG14, v7, rfl, hv7, hp8, hx9⟩
      have hF15 : qFr [(86, 15), (86, 23), (86, 30), (86, 43)] [96, 110, 114] σ α σ11 α12 := qFr_t hF0 hG14 (by decide) (by decide)
      have hs16 : 0 ≤ σ11 86 43 ∧ σ11 86 43 ≤ 32 := hI13.1 86 43
      show qr_W (qe L xs vb) (d + 12) qx_e242 _ (29, _, [.int (qz v7)], qw σ11 α12 κ ρ, 0, 0)
      refine qr_if_ne 34 32 rfl rfl rfl (qrg hv7 (by decide) (by decide)) (fun h17 => ?_) (fun h17 => ?_)
      · skip
        rcases id hx9 with hq | ⟨_, hc18, hc19⟩
        · exact absurd hq.1 (by omega)
        have hc19_ := qSr_of (by omega) hc19
        refine qr_aload_n 35 rfl rfl rfl ?_
        refine qr_iconst 36 rfl rfl ?_
        refine qr_iconst 37 rfl rfl ?_
        refine qr_iload_n 38 rfl rfl rfl ?_
        refine qr_iload 40 rfl rfl rfl ?_
        have hs20 : (-9223372036854775808) ≤ σ11 86 29 ∧ σ11 86 29 ≤ 9223372036854775807 := hI13.1 86 29
        have hs21 : σ11 86 29 = (σ 86 29) := (hG14.1 86 29 (by decide)).trans rfl
        have hs22 : 0 ≤ σ11 86 43 ∧ σ11 86 43 ≤ 32 := hI13.1 86 43
        have hs23 : 0 ≤ σ11 86 6 ∧ σ11 86 6 ≤ 32 := hI13.1 86 6
        have hs24 : σ11 86 6 = (σ 86 6) := (hG14.1 86 6 (by decide)).trans rfl
        refine qr_callN 43 rfl rfl rfl (sf_243_86x0 (d := d + 0) hI13 (by decide) (by omega) (by omega) (by omega) (by omega) (qZf_fr hF15 (by decide) (by decide) p0) (qZk_fr hF15 (by decide) (by decide) p1) ((hF15.1 86 29 (by decide)).trans p2) (by rw [show σ11 86 6 = σ 86 6 from hG14.1 86 6 (by decide)]; exact hc19_) (by omega) (qLs_0 _) qGo_0 (fun o hm => absurd hm (List.not_mem_nil))) ?_
        rintro _ _ ⟨σ28, α29, rfl, hI30, hG31, v25, rfl, hv25, hx26, hx27⟩
        have hF32 : qFr [(86, 15), (86, 23), (86, 30), (86, 43)] [96, 110, 114] σ α σ28 α29 := qFr_t hF15 hG31 (by decide) (by decide)
        show qr_W (qe L xs vb) (d + 12) qx_e242 _ (43, _, [.int (qz v25)], qw σ28 α29 κ ρ, 0, 0)
        rw [qClM_fr hF15 (by decide) (by decide)] at hx26
        refine qr_if_ne 49 46 rfl rfl rfl (qrg hv25 (by decide) (by decide)) (fun h33 => ?_) (fun h33 => ?_)
        · skip
          rcases (id hx26).symm with hq | ⟨_, os37, hd34, hd35, hd36⟩
          · exact absurd hq.1 (by omega)
          refine qr_iconst 50 rfl rfl ?_
          refine qr_istore _ 52 rfl (by decide) rfl rfl ?_
          refine qr_iconst 53 rfl rfl ?_
          refine qr_istore _ 55 rfl (by decide) rfl rfl ?_
          have hL115 : ∀ (n : Nat) (ls : qm_L) (u109 u111 : Int), 6 - u111 < (n : Int) → qm_get ls 0 = some (.ref 86) → qm_get ls 5 = some (.int (qz u109)) → qm_get ls 6 = some (.int (qz u111)) → ((-2147483648) ≤ u109 ∧ u109 ≤ 2147483647) → (0 ≤ u111 ∧ u111 ≤ 6) → (u109 = qdg (os37.take (u111 : Int).toNat) ∧ u111 ≤ (σ11 86 43) ∧ ((u111 = 0 ∧ 0 ≤ u109 ∧ u109 ≤ 0) ∨ (u111 = 1 ∧ 0 ≤ u109 ∧ u109 ≤ 9) ∨ (u111 = 2 ∧ 0 ≤ u109 ∧ u109 ≤ 99) ∨ (u111 = 3 ∧ 0 ≤ u109 ∧ u109 ≤ 999) ∨ (u111 = 4 ∧ 0 ≤ u109 ∧ u109 ≤ 9999) ∨ (u111 = 5 ∧ 0 ≤ u109 ∧ u109 ≤ 99999) ∨ (u111 = 6 ∧ 0 ≤ u109 ∧ u109 ≤ 999999))) → qr_W (qe L xs vb) (d + 12) qx_e242 (fun r w' => ∃ σ' α', w' = qw σ' α' κ ρ ∧ qI σ' α' κ ρ ∧ qFr [(86, 15), (86, 23), (86, 30), (86, 43)] [96, 110, 114] σ α σ' α' ∧ ∃ v : Int, r = some (.int (qz v)) ∧ ((-2147483648) ≤ v ∧ v ≤ 2147483647) ∧ ((v = -1 ∧ ¬ (0 ≤ x2 ∧ x2 ≤ 2399 ∧ 100 ≤ x3 ∧ x3 ≤ 2499 ∧ qst x1 (σ 86 6) ∧ 1 ≤ qsm (fun k : Nat => qbit (ql_and x1 (ql_xor (σ 86 10) (-1))) (k : Int)) (σ 86 6 : Int).toNat ∧ qsm (fun k : Nat => qbit (ql_and x1 (ql_xor (σ 86 10) (-1))) (k : Int)) (σ 86 6 : Int).toNat ≤ 6)) ∨ ((0 ≤ x2 ∧ x2 ≤ 2399 ∧ 100 ≤ x3 ∧ x3 ≤ 2499 ∧ qst x1 (σ 86 6) ∧ 1 ≤ qsm (fun k : Nat => qbit (ql_and x1 (ql_xor (σ 86 10) (-1))) (k : Int)) (σ 86 6 : Int).toNat ∧ qsm (fun k : Nat => qbit (ql_and x1 (ql_xor (σ 86 10) (-1))) (k : Int)) (σ 86 6 : Int).toNat ≤ 6) ∧ qLs (α' 110) (σ' 86 43) (qBr (fun k : Nat => qbit (ql_and x1 (ql_xor (σ 86 10) (-1))) (k : Int)) (σ 86 6 : Int).toNat) ∧ v = qdp (qLB (fun t i o : Int => qClM σ α (x2 + t * (x3 / 100)) (α' 110 (i : Int).toNat) (α' 110 (o : Int).toNat)) ((x3 % 100) / (x3 / 100))) (σ' 86 43 : Int).toNat (σ' 86 43 : Int).toNat []))) (55, ls, [], qw σ28 α29 κ ρ, 0, 0) := by
            intro n
            induction n with
            | zero => intro ls u109 u111 hm g107 g108 g110 hf112 hf113 hx114; exact False.elim (by omega)
            | succ n ih116 =>
              intro ls u109 u111 hm g107 g108 g110 hf112 hf113 hx114
              refine qr_iload 57 rfl g110 rfl ?_
              refine qr_aload_n 58 rfl g107 rfl ?_
              refine qr_get 61 rfl rfl rfl (by decide) rfl ?_
              refine qy_v (σ11 86 43) ((hG31.1 86 43 (by decide)).trans rfl) ?_
              refine qr_icmp_ge 87 64 rfl rfl rfl (qrg hf113 (by decide) (by decide)) (by omega) (fun h117 => ?_) (fun h117 => ?_)
              · skip
                refine qr_iload 89 rfl g108 rfl ?_
                refine qr_retI rfl rfl (by decide) (by decide) ?_
                exact ⟨_, _, rfl, hI30, hF32, u109, rfl, hf112, (Or.inr ⟨⟨by omega, by omega, by omega, by omega, hc18⟩, (by rw [hG31.2 110 (by decide), hG31.1 86 43 (by decide)]; exact hc19), (by rw [hG31.2 110 (by decide), hG31.1 86 43 (by decide)]; have h1 := hx114.1; have hl := hd34.1; have h2 := hd35; rw [Int.sub_zero] at h2; rw [h1, ← h2, show (u111 : Int).toNat = os37.length by omega, List.take_length])⟩)⟩
              · skip
                refine qr_bipush 66 rfl (by decide) rfl ?_
                refine qr_iload 68 rfl g108 rfl ?_
                refine qr_imul 69 rfl rfl ?_
                refine qy_canE (fun v118 hv118 hev118 => ?_)
                refine qr_aload_n 70 rfl g107 rfl ?_
                refine qr_get 73 rfl rfl rfl (by decide) rfl ?_
                refine qr_iload 75 rfl g110 rfl ?_
                refine qr_iaload 76 rfl rfl (by omega) (by decide) rfl ?_
                refine qr_topI (fun v119 hv119 => ?_)
                have hs120 : 0 ≤ v119 ∧ v119 ≤ 5 := by rw [hv119]; exact hI30.2.1 114 _ (show _ < 6 by omega)
                have hrv119 : v119 = (α29 114) (u111 : Int).toNat := hv119
                refine qr_iadd 77 rfl rfl ?_
                refine qy_canE (fun v121 hv121 hev121 => ?_)
                refine qr_iconst 78 rfl rfl ?_
                refine qr_iadd 79 rfl rfl ?_
                refine qy_canE (fun v122 hv122 hev122 => ?_)
                refine qr_istore _ 81 rfl (by decide) rfl rfl ?_
                refine qr_iinc _ 84 rfl (qm_gk g110 (by decide) (Or.inl (by decide))) (by decide) rfl rfl ?_
                refine qr_goto 55 rfl rfl ?_
                exact ih116 _ v122 (u111 + 1) (by omega) (qm_gk (qm_gk g107 (by decide) (Or.inl (by decide))) (by decide) (Or.inl (by decide))) (qm_gk (qm_ge _ _ _) (by decide) (Or.inr rfl)) (qm_ge _ _ _) hv122 (by omega) (by have ha := hx114; have hl := hd34.1; have hg := hd34.2 (u111 : Int).toNat (by omega); have e1 := qz_val hev118 (by omega) (by omega); have e2 := qz_val hev121 (by omega) (by omega); have e3 := qz_val hev122 (by omega) (by omega); exact ⟨by rw [show (u111 + 1 : Int).toNat = (u111 : Int).toNat + 1 by omega, qtake_s os37 (u111 : Int).toNat (by omega), qdg_app, ← ha.1, ← hg, ← hrv119]; omega, by omega, by omega⟩)
          exact hL115 ((6 - 0 + 1 : Int)).toNat _ 0 0 (by omega) rfl rfl rfl (by decide) (by decide) ⟨rfl, by omega, by omega⟩
        · skip
          refine qr_bipush 48 rfl (by decide) rfl ?_
          refine qr_retI rfl rfl (by decide) (by decide) ?_
          exact ⟨_, _, rfl, hI30, hF32, (-2), rfl, (by decide), (Or.inr ⟨⟨by omega, by omega, by omega, by omega, hc18⟩, (by rw [hG31.2 110 (by decide), hG31.1 86 43 (by decide)]; exact hc19), (by rw [hG31.2 110 (by decide), hG31.1 86 43 (by decide)]; have hz := hx26; rcases hz with hz | hz; (omega); (have h2 := hz.2; rw [Int.sub_zero] at h2; exact h2.symm))⟩)⟩
      · skip
        refine qr_iconst 33 rfl rfl ?_
        refine qr_retI rfl rfl (by decide) (by decide) ?_
        exact ⟨_, _, rfl, hI13, hF15, (-1), rfl, (by decide), (Or.inl ⟨rfl, fun hc => by obtain ⟨c1, c2, c3, c4, c5, c6, c7⟩ := hc; first | omega | (rcases hx9 with hz | hz; (exact hz.2 ⟨c5, c6, c7⟩); (omega))⟩)⟩

theorem qrr_cl {σ α : Nat → Nat → Int} {κ : Nat → Option Nat} {ρ : Nat} (hI : qI σ α κ ρ) (hR : qR σ α) (h2 : qR2 σ α) (hF : qRF σ α) (hP : qRP σ α) (hH : qRH σ α) (hL : qRL σ α) (hN : qRN σ α) {h p q : Int} (hp : 0 ≤ p ∧ p < σ 86 6) (hq : 0 ≤ q ∧ q < σ 86 6) (hpq : ¬ p = q) : qClC σ α h p q ↔ qClM σ α h p q := by
  have b6 : 0 ≤ σ 86 6 ∧ σ 86 6 ≤ 32 := hI.1 86 6
  have b24 : 0 ≤ σ 86 24 ∧ σ 86 24 ≤ 60 := hI.1 86 24
  have hk := qrr_k hI hR h2 hF hH hN (p := p) (q := q) (h := h) (by omega) (by omega)
  have hs : qsm (qhF (α 35) (α 36) (α 37) (α 40) (qcv (α 41)) (qlw (α 22)) p q h) (σ 34 7 : Int).toNat = qsm (qhF (qsh (α 87) 192) (α 102) (α 103) (qun (α 104) (α 105) (qsh (α 87) 192)) (qcw (α 87)) (qll (α 91)) p q h) (σ 86 24 : Int).toNat := by
    rw [hR.2.2.1]
    exact qsm_eq _ (fun k hk => qrr_h hI hR hP hH hL hp hq (show (k : Int) < σ 86 24 by omega))
  unfold qClC qClM
  rw [hk, hs, hR.2.2.2.2.2.1]
  exact ⟨fun z => ⟨hpq, z⟩, fun z => z.2⟩

set_option maxHeartbeats 4000000 in
theorem ro_leave {σ α σ1 α1 σ2 α2 : Nat → Nat → Int} {κ : Nat → Option Nat} {ρ : Nat} {x1 x2 x3 v1 v2 : Int} (hI1 : qI σ1 α1 κ ρ) (hI2 : qI σ2 α2 κ ρ) (hI : qI σ α κ ρ) (hR : qR σ α) (hK : qR2 σ α) (hF : qRF σ α) (hP : qRP σ α) (hH : qRH σ α) (hL : qRL σ α) (hN : qRN σ α) (hG1 : qFr [(58, 11), (58, 12), (64, 2), (64, 7)] [60, 61, 62, 63, 65, 68, 69] σ α σ1 α1) (hG2 : qFr [(86, 15), (86, 23), (86, 30), (86, 43)] [96, 110, 114] σ1 α1 σ2 α2) (hx0 : ((v1 = -1 ∧ ¬ (qst x1 (σ 17 6) ∧ 0 ≤ x2 ∧ x2 ≤ 2399 ∧ 100 ≤ x3 ∧ x3 ≤ 2499 ∧ ¬ (ql_and x1 (ql_xor (σ 17 5) (-1))) = 0 ∧ qcn (ql_and x1 (ql_xor (σ 17 5) (-1))) 64 ≤ 6)) ∨ ((qst x1 (σ 17 6) ∧ 0 ≤ x2 ∧ x2 ≤ 2399 ∧ 100 ≤ x3 ∧ x3 ≤ 2499 ∧ ¬ (ql_and x1 (ql_xor (σ 17 5) (-1))) = 0 ∧ qcn (ql_and x1 (ql_xor (σ 17 5) (-1))) 64 ≤ 6) ∧ qLs (α1 65) (σ1 64 2) (qBr (fun k : Nat => qbit (ql_and x1 (ql_xor (σ 17 5) (-1))) (k : Int)) 32) ∧ qTE (fun t i o : Int => qClC σ α (x2 + t * (x3 / 100)) (α1 65 (i : Int).toNat) (α1 65 (o : Int).toNat)) (σ1 64 2) (α1 68) ∧ σ1 64 7 = x3 % 100 / (x3 / 100) ∧ v1 = qdp (qLB (fun t i o : Int => qbit (α1 68 (t * 6 + i : Int).toNat) o = 1) (σ1 64 7)) (σ1 64 2 : Int).toNat (σ1 64 2 : Int).toNat []))) (hx1 : (∀ c : Nat, c < 496 → α1 61 c ≤ σ1 58 12)) (hx2 : (∀ c : Nat, c < 496 → α1 63 c ≤ σ1 58 12)) (hx3 : (0 ≤ σ1 58 12 ∧ σ1 58 12 ≤ σ 58 12 + 6)) (hy0 : ((v2 = -1 ∧ ¬ (0 ≤ x2 ∧ x2 ≤ 2399 ∧ 100 ≤ x3 ∧ x3 ≤ 2499 ∧ qst x1 (σ1 86 6) ∧ 1 ≤ qsm (fun k : Nat => qbit (ql_and x1 (ql_xor (σ1 86 10) (-1))) (k : Int)) (σ1 86 6 : Int).toNat ∧ qsm (fun k : Nat => qbit (ql_and x1 (ql_xor (σ1 86 10) (-1))) (k : Int)) (σ1 86 6 : Int).toNat ≤ 6)) ∨ ((0 ≤ x2 ∧ x2 ≤ 2399 ∧ 100 ≤ x3 ∧ x3 ≤ 2499 ∧ qst x1 (σ1 86 6) ∧ 1 ≤ qsm (fun k : Nat => qbit (ql_and x1 (ql_xor (σ1 86 10) (-1))) (k : Int)) (σ1 86 6 : Int).toNat ∧ qsm (fun k : Nat => qbit (ql_and x1 (ql_xor (σ1 86 10) (-1))) (k : Int)) (σ1 86 6 : Int).toNat ≤ 6) ∧ qLs (α2 110) (σ2 86 43) (qBr (fun k : Nat => qbit (ql_and x1 (ql_xor (σ1 86 10) (-1))) (k : Int)) (σ1 86 6 : Int).toNat) ∧ v2 = qdp (qLB (fun t i o : Int => qClM σ1 α1 (x2 + t * (x3 / 100)) (α2 110 (i : Int).toNat) (α2 110 (o : Int).toNat)) ((x3 % 100) / (x3 / 100))) (σ2 86 43 : Int).toNat (σ2 86 43 : Int).toNat [])))  : v1 = v2 := by
  have b6 : 0 ≤ σ 86 6 ∧ σ 86 6 ≤ 32 := hI.1 86 6
  have b16 : 0 ≤ σ 86 16 ∧ σ 86 16 ≤ 40 := hI.1 86 16
  have b24 : 0 ≤ σ 86 24 ∧ σ 86 24 ≤ 60 := hI.1 86 24
  have e6 := hR.1
  have e16 := hR.2.1
  have e24 := hR.2.2.1
  have c6 : σ1 86 6 = σ 86 6 := hG1.1 86 6 (by decide)
  have c10 : σ1 86 10 = σ 86 10 := hG1.1 86 10 (by decide)
  have n5 := hN.1
  rw [e6, n5] at hx0
  rw [c6, c10, qClM_fr hG1 (by decide) (by decide)] at hy0
  have lr := ql_and_r x1 (ql_xor (σ 86 10) (-1))
  have nz := qgl_nz lr
  rcases hx0 with ⟨a1, a2⟩ | ⟨a1, a2, a3, a4, a5⟩
  · rcases hy0 with ⟨b1, b2⟩ | ⟨b1, b2, b3⟩
    · omega
    · obtain ⟨m1, m2, m3, m4, m5, m6, m7⟩ := b1
      have ln := qgl_len (d := ql_xor (σ 86 10) (-1)) m5 b6
      exact absurd ⟨m5, m1, m2, m3, m4, nz.mpr (by omega), by omega⟩ a2
  · obtain ⟨c1, c2, c3, c4, c5, c7, c8⟩ := a1
    have ln := qgl_len (d := ql_xor (σ 86 10) (-1)) c1 b6
    have n1 := nz.mp c7
    rcases hy0 with ⟨b1, b2⟩ | ⟨b1, b2, b3⟩
    · exact absurd ⟨c2, c3, c4, c5, c1, by omega, by omega⟩ b2
    rw [qgl_ls (d := ql_xor (σ 86 10) (-1)) c1 b6] at a2
    have gl := qgr_ls a2 b2
    have hsr := qSr_of b6.1 b2
    have ge := gl.1
    rw [ge] at a3 a5 gl
    have hnn : 0 ≤ σ2 86 43 ∧ σ2 86 43 ≤ 6 := by have := b2.1; have h1 := qBr_sm (Q := fun k : Nat => qbit (ql_and x1 (ql_xor (σ 86 10) (-1))) (k : Int)) (fun k => qbit_r _ _) (σ 86 6 : Int).toNat; omega
    rw [a5, b3]
    refine qdp_cg (fun os i hl ho h0 h1 => ?_) _ [] (by show 0 + _ = _; omega) (fun o hm => absurd hm (List.not_mem_nil))
    by_cases c : i ∈ os
    · exact ⟨fun _ => Or.inl c, fun _ => Or.inl c⟩
    · have key : ∀ (e : Nat) (h : e < os.length), (qbit (α1 68 ((os.length : Int) * 6 + i : Int).toNat) os[e] = 1 ↔ qClM σ α (x2 + (os.length : Int) * (x3 / 100)) (α2 110 (i : Int).toNat) (α2 110 (os[e] : Int).toNat)) := fun e h => by
        have hoe := ho os[e] (List.getElem_mem _)
        have hne : ¬ i = os[e] := fun hz => c (hz ▸ List.getElem_mem _)
        have h2 := a3 (os.length : Int) i os[e] (by omega) (by omega) h0 (by omega) hoe.1 (by omega)
        have h3 := qbit_qbi (α1 68 ((os.length : Int) * 6 + i : Int).toNat) (i := os[e]) (by omega)
        have ra := hsr.1 (i : Int).toNat (by omega)
        have rb := hsr.1 (os[e] : Int).toNat (by omega)
        have hpq : ¬ α2 110 (i : Int).toNat = α2 110 (os[e] : Int).toNat := fun hz => by
          by_cases d : i < os[e]
          · have := hsr.2 (i : Int).toNat (os[e] : Int).toNat (by omega) (by omega)
            omega
          · have := hsr.2 (os[e] : Int).toNat (i : Int).toNat (by omega) (by omega)
            omega
        rw [h3, h2]
        have h4 : qClC σ α (x2 + (os.length : Int) * (x3 / 100)) (α1 65 (i : Int).toNat) (α1 65 (os[e] : Int).toNat) ↔ qClM σ α (x2 + (os.length : Int) * (x3 / 100)) (α2 110 (i : Int).toNat) (α2 110 (os[e] : Int).toNat) := by
          rw [gl.2 (i : Int).toNat (by omega), gl.2 (os[e] : Int).toNat (by omega)]
          exact qrr_cl hI hR hK hF hP hH hL hN ra rb hpq
        exact ⟨fun z => h4.mp z.2, fun z => ⟨hne, h4.mpr z⟩⟩
      constructor
      · rintro (h | ⟨e, he, h2, h3⟩)
        · exact absurd h c
        · exact Or.inr ⟨e, he, by rw [← a4]; exact h2, (key e he).mp h3⟩
      · rintro (h | ⟨e, he, h2, h3⟩)
        · exact absurd h c
        · exact Or.inr ⟨e, he, by rw [a4]; exact h2, (key e he).mpr h3⟩
